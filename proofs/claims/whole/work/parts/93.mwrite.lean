/-! ===== the model's calls: write, copy, load, judge ===== -/
theorem E_X5_cutTo {X : AmX} {G : GG} (v : Int32) (w : Nat) (hw : w ≤ 32) : Ev X 195 [.int v, .int (nI w)] G (some (.int (narI w v))) (G) := by
  refine Ev_of ?_
  show WP X 195 (am_blk 195 0) [some (.int v), some (.int (nI w))] [] G _
  unfold narI
  by_cases h8 : w = 8
  · subst h8
    rw [if_pos rfl]
    simp (config := { maxSteps := 1000000 }) (disch := first | exact am_nl_i | exact am_nl_r | exact am_nl_n | exact am_l0 | exact am_l1 | exact am_l2 | exact am_l3 | assumption | omega) only [wp_ldc, wp_sipush, wp_ldc_w, wp_lconst, wp_iadd, wp_isub, wp_imul, wp_iand, wp_ior, wp_ixor, wp_ishl, wp_ishr, wp_iushr, wp_idiv, wp_irem, wp_ineg, wp_i2b, wp_i2s, wp_i2c, wp_i2l, wp_ladd, wp_lmul, wp_lcmp, wp_dup_i, wp_dup_r, wp_dup2, wp_pop, wp_getfield, wp_putfield, wp_getstatic, wp_iaload, wp_baload, wp_aaload, wp_iastore, wp_arraylength, wp_goto, wp_fall, wp_ieq, wp_ine, wp_ilt, wp_ige, wp_igt, wp_ile, wp_ceq, wp_cne, wp_clt, wp_cge, wp_cgt, wp_cle, wp_sw, wp_ret0, wp_ret1z, wp_ret1o, wp_ret1, wp_ret2, wp_ret3, wp_ret4, wp_ret5, wp_return, wp_min, wp_max, wp_abs, am_ex, gset_eq, gset_ne, upd_eq, upd_ne, gset_gset, am_ci_1, am_ci_6, am_toList_some, am_toList_none, true_implies, false_implies, and_self, and_true, true_and, not_true_eq_false, not_false_eq_true, imp_self, implies_true, Classical.not_not, if_true, if_false, false_and, and_false, or_false, false_or, true_or, or_true, Nat.reduceAdd, Nat.reduceMul, Nat.reduceSub, Nat.reduceLT, Nat.reduceLeDiff, Nat.reduceEqDiff, Nat.reduceBneDiff, Nat.add_zero, Nat.zero_add, reduceCtorEq, wil0, wal0, wis0, wic0, wil1, wal1, wis1, wic1, wil2, wll2, wal2, wis2, was2, wls2, wic2, wil3, wis3, wic3, wic3m, wic3s, wil4, wis4, wic4, wil5, wis5, wic5, wic5m, wil6, wll6, wal6, wis6, was6, wls6, wic6, wil7, wal7, wis7, was7, wic7, wil8, wis8, wic8, wil9, wis9, wic9, wil10, wis10, wic10, am_nI_inj, am_nI_lt, am_nI_le, nI_add, pk_mul, am_nI_sub, am_add_m1, am_gfs, am_pfs, am_alds, am_asts, am_lens, bs195, am_B195_0, am_B195_11, am_B195_22, am_B195_23]
  · rw [if_neg h8]
    by_cases h16 : w = 16
    · subst h16
      rw [if_pos rfl]
      simp (config := { maxSteps := 1000000 }) (disch := first | exact am_nl_i | exact am_nl_r | exact am_nl_n | exact am_l0 | exact am_l1 | exact am_l2 | exact am_l3 | assumption | omega) only [wp_ldc, wp_sipush, wp_ldc_w, wp_lconst, wp_iadd, wp_isub, wp_imul, wp_iand, wp_ior, wp_ixor, wp_ishl, wp_ishr, wp_iushr, wp_idiv, wp_irem, wp_ineg, wp_i2b, wp_i2s, wp_i2c, wp_i2l, wp_ladd, wp_lmul, wp_lcmp, wp_dup_i, wp_dup_r, wp_dup2, wp_pop, wp_getfield, wp_putfield, wp_getstatic, wp_iaload, wp_baload, wp_aaload, wp_iastore, wp_arraylength, wp_goto, wp_fall, wp_ieq, wp_ine, wp_ilt, wp_ige, wp_igt, wp_ile, wp_ceq, wp_cne, wp_clt, wp_cge, wp_cgt, wp_cle, wp_sw, wp_ret0, wp_ret1z, wp_ret1o, wp_ret1, wp_ret2, wp_ret3, wp_ret4, wp_ret5, wp_return, wp_min, wp_max, wp_abs, am_ex, gset_eq, gset_ne, upd_eq, upd_ne, gset_gset, am_ci_1, am_ci_6, am_toList_some, am_toList_none, true_implies, false_implies, and_self, and_true, true_and, not_true_eq_false, not_false_eq_true, imp_self, implies_true, Classical.not_not, if_true, if_false, false_and, and_false, or_false, false_or, true_or, or_true, Nat.reduceAdd, Nat.reduceMul, Nat.reduceSub, Nat.reduceLT, Nat.reduceLeDiff, Nat.reduceEqDiff, Nat.reduceBneDiff, Nat.add_zero, Nat.zero_add, reduceCtorEq, wil0, wal0, wis0, wic0, wil1, wal1, wis1, wic1, wil2, wll2, wal2, wis2, was2, wls2, wic2, wil3, wis3, wic3, wic3m, wic3s, wil4, wis4, wic4, wil5, wis5, wic5, wic5m, wil6, wll6, wal6, wis6, was6, wls6, wic6, wil7, wal7, wis7, was7, wic7, wil8, wis8, wic8, wil9, wis9, wic9, wil10, wis10, wic10, am_nI_inj, am_nI_lt, am_nI_le, nI_add, pk_mul, am_nI_sub, am_add_m1, am_gfs, am_pfs, am_alds, am_asts, am_lens, bs195, am_B195_0, am_B195_11, am_B195_22, am_B195_23]
    · rw [if_neg h16]
      have q1 := eq_false h8
      have q2 := eq_false h16
      simp (config := { maxSteps := 1000000 }) (disch := first | exact am_nl_i | exact am_nl_r | exact am_nl_n | exact am_l0 | exact am_l1 | exact am_l2 | exact am_l3 | assumption | omega) only [wp_ldc, wp_sipush, wp_ldc_w, wp_lconst, wp_iadd, wp_isub, wp_imul, wp_iand, wp_ior, wp_ixor, wp_ishl, wp_ishr, wp_iushr, wp_idiv, wp_irem, wp_ineg, wp_i2b, wp_i2s, wp_i2c, wp_i2l, wp_ladd, wp_lmul, wp_lcmp, wp_dup_i, wp_dup_r, wp_dup2, wp_pop, wp_getfield, wp_putfield, wp_getstatic, wp_iaload, wp_baload, wp_aaload, wp_iastore, wp_arraylength, wp_goto, wp_fall, wp_ieq, wp_ine, wp_ilt, wp_ige, wp_igt, wp_ile, wp_ceq, wp_cne, wp_clt, wp_cge, wp_cgt, wp_cle, wp_sw, wp_ret0, wp_ret1z, wp_ret1o, wp_ret1, wp_ret2, wp_ret3, wp_ret4, wp_ret5, wp_return, wp_min, wp_max, wp_abs, am_ex, gset_eq, gset_ne, upd_eq, upd_ne, gset_gset, am_ci_1, am_ci_6, am_toList_some, am_toList_none, true_implies, false_implies, and_self, and_true, true_and, not_true_eq_false, not_false_eq_true, imp_self, implies_true, Classical.not_not, if_true, if_false, false_and, and_false, or_false, false_or, true_or, or_true, Nat.reduceAdd, Nat.reduceMul, Nat.reduceSub, Nat.reduceLT, Nat.reduceLeDiff, Nat.reduceEqDiff, Nat.reduceBneDiff, Nat.add_zero, Nat.zero_add, reduceCtorEq, wil0, wal0, wis0, wic0, wil1, wal1, wis1, wic1, wil2, wll2, wal2, wis2, was2, wls2, wic2, wil3, wis3, wic3, wic3m, wic3s, wil4, wis4, wic4, wil5, wis5, wic5, wic5m, wil6, wll6, wal6, wis6, was6, wls6, wic6, wil7, wal7, wis7, was7, wic7, wil8, wis8, wic8, wil9, wis9, wic9, wil10, wis10, wic10, am_nI_inj, am_nI_lt, am_nI_le, nI_add, pk_mul, am_nI_sub, am_add_m1, am_gfs, am_pfs, am_alds, am_asts, am_lens, bs195, am_B195_0, am_B195_11, am_B195_22, am_B195_23, q1, q2]
theorem C_X5_cutTo {X : AmX} {G : GG} {k : Nat} {r : List Instr} {lv : LV} {st : List Value} {Q : Option Value → GG → Prop} {v : Int32} {w : Nat} (hw : w ≤ 32) (hl : st.length ≤ 4) : WP X k (.invokeinterface 195 2 :: r) lv ((.int (nI w)) :: (.int v) :: st) G Q ↔ WP X k r lv ((.int (narI w v)) :: st) (G) Q := WP_ev (E_X5_cutTo v w hw) (by decide) rfl rfl hl (rfl)
theorem hasB_nat {sz a c : Nat} (hs : sz ≤ 40) (ha : a < 2 ^ 31) (hc : c < 2 ^ 31) : hasB sz (nI a) (nI c) = decide (a + c ≤ sz) := by
  unfold hasB
  refine decide_eq_decide.mpr ?_
  rw [am_nI_lt ha (by omega), am_nI_lt hc (by omega), am_nI_lt (by omega) hc]
  by_cases h : c ≤ sz
  · rw [am_nI_sub h, am_nI_lt (by omega) ha]; omega
  · exact ⟨fun z => by omega, fun z => by omega⟩
theorem hasB_neg {sz : Nat} {a c : Int32} (h : a < nI 0 ∨ c < nI 0) : hasB sz a c = false := decide_eq_false (fun z => by
  rcases h with h | h
  · exact z.1 h
  · exact z.2.1 h)
theorem inR_nat {a n : Nat} (ha : a < 2 ^ 31) (hn : n < 2 ^ 31) : inR (nI a) (nI 0) (nI n - nI 1) = decide (a < n) := by
  by_cases h : n = 0
  · subst h
    have e : nI 0 - nI 1 = nM := by decide
    rw [e]
    have : inR (nI a) (nI 0) nM = false := decide_eq_false (fun z => z.2 (by rw [nM_lt ha]; trivial))
    rw [this, decide_eq_false (by omega)]
  · rw [am_nI_sub (by omega), inR_nI ha (by omega) (by omega)]
    exact decide_eq_decide.mpr (by omega)
theorem ms_sh {S : SS} {G : GG} {p : Nat} (h : MSt S G) (hv : SV S) (hp : p < 4) : G 67 p = nI (S.2.2.2.1.1 p) ∧ G 68 p = nI (S.2.2.2.1.2.1 p) ∧ (∀ i, i < 40 → G 69 (40 * p + i) = S.2.2.2.1.2.2 p i) ∧ S.2.2.2.1.1 p ≤ 32 ∧ S.2.2.2.1.2.1 p ≤ 40 := by
  obtain ⟨a, b, c⟩ := h.2.2.2.2.1 p hp
  obtain ⟨d, e⟩ := hv.2.2.1 p hp
  exact ⟨a, b, c, by omega, e⟩
theorem MT_write {X : AmX} {S : SS} {G : GG} (h : MSt S G) (hv : SV S) (a1 a2 a3 : Int32) : MW X 194 [.ref 58, .int a1, .int a2, .int a3] G (sp_write S a1 a2 a3) := by
  have hE := h.1
  have f0 := hE.2.1
  have hv8 := hv.1.1.1
  have hm := MS_MR h hv
  unfold MW sp_write
  have e2 : (nI 1 = nI 0) = False := eq_false (by decide)
  show WP X 194 (am_blk 194 0) [some (.ref 58), some (.int a1), some (.int a2), some (.int a3)] [] G _
  by_cases h1 : inR a1 (nI 0) (nI 3) = true
  rotate_left
  · rw [if_neg (fun z => h1 z)]
    rw [Bool.not_eq_true] at h1
    simp (config := { maxSteps := 1000000 }) (disch := first | exact am_nl_i | exact am_nl_r | exact am_nl_n | exact am_l0 | exact am_l1 | exact am_l2 | exact am_l3 | assumption | omega) only [wp_ldc, wp_sipush, wp_ldc_w, wp_lconst, wp_iadd, wp_isub, wp_imul, wp_iand, wp_ior, wp_ixor, wp_ishl, wp_ishr, wp_iushr, wp_idiv, wp_irem, wp_ineg, wp_i2b, wp_i2s, wp_i2c, wp_i2l, wp_ladd, wp_lmul, wp_lcmp, wp_dup_i, wp_dup_r, wp_dup2, wp_pop, wp_getfield, wp_putfield, wp_getstatic, wp_iaload, wp_baload, wp_aaload, wp_iastore, wp_arraylength, wp_goto, wp_fall, wp_ieq, wp_ine, wp_ilt, wp_ige, wp_igt, wp_ile, wp_ceq, wp_cne, wp_clt, wp_cge, wp_cgt, wp_cle, wp_sw, wp_ret0, wp_ret1z, wp_ret1o, wp_ret1, wp_ret2, wp_ret3, wp_ret4, wp_ret5, wp_return, wp_min, wp_max, wp_abs, am_ex, gset_eq, gset_ne, upd_eq, upd_ne, gset_gset, am_ci_1, am_ci_6, am_toList_some, am_toList_none, true_implies, false_implies, and_self, and_true, true_and, not_true_eq_false, not_false_eq_true, imp_self, implies_true, Classical.not_not, if_true, if_false, false_and, and_false, or_false, false_or, true_or, or_true, Nat.reduceAdd, Nat.reduceMul, Nat.reduceSub, Nat.reduceLT, Nat.reduceLeDiff, Nat.reduceEqDiff, Nat.reduceBneDiff, Nat.add_zero, Nat.zero_add, reduceCtorEq, wil0, wal0, wis0, wic0, wil1, wal1, wis1, wic1, wil2, wll2, wal2, wis2, was2, wls2, wic2, wil3, wis3, wic3, wic3m, wic3s, wil4, wis4, wic4, wil5, wis5, wic5, wic5m, wil6, wll6, wal6, wis6, was6, wls6, wic6, wil7, wal7, wis7, was7, wic7, wil8, wis8, wic8, wil9, wis9, wic9, wil10, wis10, wic10, am_nI_inj, am_nI_lt, am_nI_le, nI_add, pk_mul, am_nI_sub, am_add_m1, am_gfs, am_pfs, am_alds, am_asts, am_lens, bs194, am_B194_0, am_B194_14, am_B194_30, am_B194_53, C_X5_isPerson, C_X5_isPlace, C_X5_within, C_X5_isKind, C_X5_isSpot, C_X5_isSheet, C_X5_isPrize, C_X5_isAhead, h1, bI_t, bI_f, e2, f0, fcs, C_X5_finding]
    first | exact ⟨rfl, MSt_fnd h (by omega), mfnd_frame⟩ | exact ⟨MSt_fnd h (by omega), mfnd_frame⟩
  rw [if_pos h1]
  obtain ⟨p, hp, rfl, h1'⟩ := rng_of (by omega) h1
  rw [aN_nI (show p < 2 ^ 31 by omega)]
  have hp4 : p < 4 := by omega
  obtain ⟨w1, w2, w3, w4, w5⟩ := ms_sh h hv hp4
  by_cases h2 : S.2.2.2.1.1 p = 0
  · rw [if_pos h2]
    have q2 := eq_true h2
    simp (config := { maxSteps := 1000000 }) (disch := first | exact am_nl_i | exact am_nl_r | exact am_nl_n | exact am_l0 | exact am_l1 | exact am_l2 | exact am_l3 | assumption | omega) only [wp_ldc, wp_sipush, wp_ldc_w, wp_lconst, wp_iadd, wp_isub, wp_imul, wp_iand, wp_ior, wp_ixor, wp_ishl, wp_ishr, wp_iushr, wp_idiv, wp_irem, wp_ineg, wp_i2b, wp_i2s, wp_i2c, wp_i2l, wp_ladd, wp_lmul, wp_lcmp, wp_dup_i, wp_dup_r, wp_dup2, wp_pop, wp_getfield, wp_putfield, wp_getstatic, wp_iaload, wp_baload, wp_aaload, wp_iastore, wp_arraylength, wp_goto, wp_fall, wp_ieq, wp_ine, wp_ilt, wp_ige, wp_igt, wp_ile, wp_ceq, wp_cne, wp_clt, wp_cge, wp_cgt, wp_cle, wp_sw, wp_ret0, wp_ret1z, wp_ret1o, wp_ret1, wp_ret2, wp_ret3, wp_ret4, wp_ret5, wp_return, wp_min, wp_max, wp_abs, am_ex, gset_eq, gset_ne, upd_eq, upd_ne, gset_gset, am_ci_1, am_ci_6, am_toList_some, am_toList_none, true_implies, false_implies, and_self, and_true, true_and, not_true_eq_false, not_false_eq_true, imp_self, implies_true, Classical.not_not, if_true, if_false, false_and, and_false, or_false, false_or, true_or, or_true, Nat.reduceAdd, Nat.reduceMul, Nat.reduceSub, Nat.reduceLT, Nat.reduceLeDiff, Nat.reduceEqDiff, Nat.reduceBneDiff, Nat.add_zero, Nat.zero_add, reduceCtorEq, wil0, wal0, wis0, wic0, wil1, wal1, wis1, wic1, wil2, wll2, wal2, wis2, was2, wls2, wic2, wil3, wis3, wic3, wic3m, wic3s, wil4, wis4, wic4, wil5, wis5, wic5, wic5m, wil6, wll6, wal6, wis6, was6, wls6, wic6, wil7, wal7, wis7, was7, wic7, wil8, wis8, wic8, wil9, wis9, wic9, wil10, wis10, wic10, am_nI_inj, am_nI_lt, am_nI_le, nI_add, pk_mul, am_nI_sub, am_add_m1, am_gfs, am_pfs, am_alds, am_asts, am_lens, bs194, am_B194_0, am_B194_14, am_B194_30, am_B194_53, C_X5_isSheet, h1', bI_t, e2, w1, q2, fcs, C_X5_finding]
    first | exact ⟨rfl, MSt_fnd h (by omega), mfnd_frame⟩ | exact ⟨MSt_fnd h (by omega), mfnd_frame⟩
  rw [if_neg h2]
  have q2 := eq_false h2
  have hcon : ∀ b, hasB (S.2.2.2.1.2.1 p) a2 (nI 1) = b → inR a2 (nI 0) (nI (S.2.2.2.1.2.1 p) - nI 1) = b := by
    intro b hb
    rw [← hb]
    by_cases hn : a2 < nI 0
    · rw [hasB_neg (Or.inl hn)]
      exact decide_eq_false (fun z => z.1 hn)
    · obtain ⟨a, ha, rfl⟩ := Int32_neg_of hn
      rw [hasB_nat w5 ha (by omega), inR_nat ha (by omega)]
      exact decide_eq_decide.mpr (by omega)
  by_cases h3 : hasB (S.2.2.2.1.2.1 p) a2 (nI 1) = true
  rotate_left
  · rw [if_neg h3]
    rw [Bool.not_eq_true] at h3
    have h4 := hcon _ h3
    by_cases hz : S.2.2.2.1.2.1 p = 0
    · rw [hz] at h4 w2
      simp (config := { maxSteps := 1000000 }) (disch := first | exact am_nl_i | exact am_nl_r | exact am_nl_n | exact am_l0 | exact am_l1 | exact am_l2 | exact am_l3 | assumption | omega) only [wp_ldc, wp_sipush, wp_ldc_w, wp_lconst, wp_iadd, wp_isub, wp_imul, wp_iand, wp_ior, wp_ixor, wp_ishl, wp_ishr, wp_iushr, wp_idiv, wp_irem, wp_ineg, wp_i2b, wp_i2s, wp_i2c, wp_i2l, wp_ladd, wp_lmul, wp_lcmp, wp_dup_i, wp_dup_r, wp_dup2, wp_pop, wp_getfield, wp_putfield, wp_getstatic, wp_iaload, wp_baload, wp_aaload, wp_iastore, wp_arraylength, wp_goto, wp_fall, wp_ieq, wp_ine, wp_ilt, wp_ige, wp_igt, wp_ile, wp_ceq, wp_cne, wp_clt, wp_cge, wp_cgt, wp_cle, wp_sw, wp_ret0, wp_ret1z, wp_ret1o, wp_ret1, wp_ret2, wp_ret3, wp_ret4, wp_ret5, wp_return, wp_min, wp_max, wp_abs, am_ex, gset_eq, gset_ne, upd_eq, upd_ne, gset_gset, am_ci_1, am_ci_6, am_toList_some, am_toList_none, true_implies, false_implies, and_self, and_true, true_and, not_true_eq_false, not_false_eq_true, imp_self, implies_true, Classical.not_not, if_true, if_false, false_and, and_false, or_false, false_or, true_or, or_true, Nat.reduceAdd, Nat.reduceMul, Nat.reduceSub, Nat.reduceLT, Nat.reduceLeDiff, Nat.reduceEqDiff, Nat.reduceBneDiff, Nat.add_zero, Nat.zero_add, reduceCtorEq, wil0, wal0, wis0, wic0, wil1, wal1, wis1, wic1, wil2, wll2, wal2, wis2, was2, wls2, wic2, wil3, wis3, wic3, wic3m, wic3s, wil4, wis4, wic4, wil5, wis5, wic5, wic5m, wil6, wll6, wal6, wis6, was6, wls6, wic6, wil7, wal7, wis7, was7, wic7, wil8, wis8, wic8, wil9, wis9, wic9, wil10, wis10, wic10, am_nI_inj, am_nI_lt, am_nI_le, nI_add, pk_mul, am_nI_sub, am_add_m1, am_gfs, am_pfs, am_alds, am_asts, am_lens, bs194, am_B194_0, am_B194_14, am_B194_30, am_B194_53, C_X5_isSheet, C_X5_within, h1', bI_t, bI_f, e2, w1, w2, q2, h4, fcs, C_X5_finding]
      first | exact ⟨rfl, MSt_fnd h (by omega), mfnd_frame⟩ | exact ⟨MSt_fnd h (by omega), mfnd_frame⟩
    · rw [am_nI_sub (by omega)] at h4
      have hz1 : 1 ≤ S.2.2.2.1.2.1 p := by omega
      simp (config := { maxSteps := 1000000 }) (disch := first | exact am_nl_i | exact am_nl_r | exact am_nl_n | exact am_l0 | exact am_l1 | exact am_l2 | exact am_l3 | assumption | omega) only [wp_ldc, wp_sipush, wp_ldc_w, wp_lconst, wp_iadd, wp_isub, wp_imul, wp_iand, wp_ior, wp_ixor, wp_ishl, wp_ishr, wp_iushr, wp_idiv, wp_irem, wp_ineg, wp_i2b, wp_i2s, wp_i2c, wp_i2l, wp_ladd, wp_lmul, wp_lcmp, wp_dup_i, wp_dup_r, wp_dup2, wp_pop, wp_getfield, wp_putfield, wp_getstatic, wp_iaload, wp_baload, wp_aaload, wp_iastore, wp_arraylength, wp_goto, wp_fall, wp_ieq, wp_ine, wp_ilt, wp_ige, wp_igt, wp_ile, wp_ceq, wp_cne, wp_clt, wp_cge, wp_cgt, wp_cle, wp_sw, wp_ret0, wp_ret1z, wp_ret1o, wp_ret1, wp_ret2, wp_ret3, wp_ret4, wp_ret5, wp_return, wp_min, wp_max, wp_abs, am_ex, gset_eq, gset_ne, upd_eq, upd_ne, gset_gset, am_ci_1, am_ci_6, am_toList_some, am_toList_none, true_implies, false_implies, and_self, and_true, true_and, not_true_eq_false, not_false_eq_true, imp_self, implies_true, Classical.not_not, if_true, if_false, false_and, and_false, or_false, false_or, true_or, or_true, Nat.reduceAdd, Nat.reduceMul, Nat.reduceSub, Nat.reduceLT, Nat.reduceLeDiff, Nat.reduceEqDiff, Nat.reduceBneDiff, Nat.add_zero, Nat.zero_add, reduceCtorEq, wil0, wal0, wis0, wic0, wil1, wal1, wis1, wic1, wil2, wll2, wal2, wis2, was2, wls2, wic2, wil3, wis3, wic3, wic3m, wic3s, wil4, wis4, wic4, wil5, wis5, wic5, wic5m, wil6, wll6, wal6, wis6, was6, wls6, wic6, wil7, wal7, wis7, was7, wic7, wil8, wis8, wic8, wil9, wis9, wic9, wil10, wis10, wic10, am_nI_inj, am_nI_lt, am_nI_le, nI_add, pk_mul, am_nI_sub, am_add_m1, am_gfs, am_pfs, am_alds, am_asts, am_lens, bs194, am_B194_0, am_B194_14, am_B194_30, am_B194_53, C_X5_isSheet, C_X5_within, h1', bI_t, bI_f, e2, w1, w2, q2, h4, fcs, C_X5_finding]
      first | exact ⟨rfl, MSt_fnd h (by omega), mfnd_frame⟩ | exact ⟨MSt_fnd h (by omega), mfnd_frame⟩
  rw [if_pos h3]
  have h4 := hcon _ h3
  obtain ⟨a, c, hac, rfl, hc1⟩ := hasB_of w5 h3
  have hc1 : c = 1 := by
    have z := hc1
    rw [am_nI_inj (by omega) (by omega)] at z
    exact z.symm
  subst hc1
  rw [aN_nI (show a < 2 ^ 31 by omega)]
  rw [am_nI_sub (by omega)] at h4
  have hz1 : 1 ≤ S.2.2.2.1.2.1 p := by omega
  have hi160 : 40 * p + a < 160 := by omega
  have hfin : MSt (sSheet S p (S.2.2.2.1.1 p) (S.2.2.2.1.2.1 p) (fun i => if i = a then narI (S.2.2.2.1.1 p) a3 else S.2.2.2.1.2.2 p i)) (gset G 69 (upd (G 69) (40 * p + a) (narI (S.2.2.2.1.1 p) a3))) := by
    refine MSt_sheet h (fun o h1 h2 h3 h4 => gset_ne h3) (fun s hs => ?_) (fun s hs => ?_) (fun s i hs hi => ?_)
    · rw [gset_ne (by omega)]
      by_cases e : s = p
      · rw [if_pos e, e]; exact w1
      · rw [if_neg e]
    · rw [gset_ne (by omega)]
      by_cases e : s = p
      · rw [if_pos e, e]; exact w2
      · rw [if_neg e]
    · rw [gset_eq]
      by_cases e : s = p
      · subst e
        rw [if_pos rfl]
        by_cases e2 : i = a
        · subst e2; rw [upd_eq, if_pos rfl]
        · rw [upd_ne (by omega), if_neg e2]; exact w3 i hi
      · rw [upd_ne (by omega), if_neg e]
  simp (config := { maxSteps := 1000000 }) (disch := first | exact am_nl_i | exact am_nl_r | exact am_nl_n | exact am_l0 | exact am_l1 | exact am_l2 | exact am_l3 | assumption | omega) only [wp_ldc, wp_sipush, wp_ldc_w, wp_lconst, wp_iadd, wp_isub, wp_imul, wp_iand, wp_ior, wp_ixor, wp_ishl, wp_ishr, wp_iushr, wp_idiv, wp_irem, wp_ineg, wp_i2b, wp_i2s, wp_i2c, wp_i2l, wp_ladd, wp_lmul, wp_lcmp, wp_dup_i, wp_dup_r, wp_dup2, wp_pop, wp_getfield, wp_putfield, wp_getstatic, wp_iaload, wp_baload, wp_aaload, wp_iastore, wp_arraylength, wp_goto, wp_fall, wp_ieq, wp_ine, wp_ilt, wp_ige, wp_igt, wp_ile, wp_ceq, wp_cne, wp_clt, wp_cge, wp_cgt, wp_cle, wp_sw, wp_ret0, wp_ret1z, wp_ret1o, wp_ret1, wp_ret2, wp_ret3, wp_ret4, wp_ret5, wp_return, wp_min, wp_max, wp_abs, am_ex, gset_eq, gset_ne, upd_eq, upd_ne, gset_gset, am_ci_1, am_ci_6, am_toList_some, am_toList_none, true_implies, false_implies, and_self, and_true, true_and, not_true_eq_false, not_false_eq_true, imp_self, implies_true, Classical.not_not, if_true, if_false, false_and, and_false, or_false, false_or, true_or, or_true, Nat.reduceAdd, Nat.reduceMul, Nat.reduceSub, Nat.reduceLT, Nat.reduceLeDiff, Nat.reduceEqDiff, Nat.reduceBneDiff, Nat.add_zero, Nat.zero_add, reduceCtorEq, wil0, wal0, wis0, wic0, wil1, wal1, wis1, wic1, wil2, wll2, wal2, wis2, was2, wls2, wic2, wil3, wis3, wic3, wic3m, wic3s, wil4, wis4, wic4, wil5, wis5, wic5, wic5m, wil6, wll6, wal6, wis6, was6, wls6, wic6, wil7, wal7, wis7, was7, wic7, wil8, wis8, wic8, wil9, wis9, wic9, wil10, wis10, wic10, am_nI_inj, am_nI_lt, am_nI_le, nI_add, pk_mul, am_nI_sub, am_add_m1, am_gfs, am_pfs, am_alds, am_asts, am_lens, bs194, am_B194_0, am_B194_14, am_B194_30, am_B194_53, C_X5_isSheet, C_X5_within, h1', bI_t, e2, w1, w2, q2, h4, C_X5_cutTo]
  first | exact ⟨rfl, hfin, fun o ho => gset_ne (by omega)⟩ | exact ⟨hfin, fun o ho => gset_ne (by omega)⟩
theorem lgc {a c sz : Nat} (ha : a < 2 ^ 31) (hc : c < 2 ^ 31) (hs : sz < 2 ^ 31) : (nI 0 < lg_cmp ((nI a).toInt64 + (nI c).toInt64) (nI sz).toInt64) = (sz < a + c) ∧ (lg_cmp ((nI a).toInt64 + (nI c).toInt64) (nI sz).toInt64 ≤ nI 0) = (a + c ≤ sz) := by
  have hx : ((nI a).toInt64 + (nI c).toInt64).toInt = (a : Int) + c := by
    rw [Int64.toInt_add, Int32.toInt_toInt64, Int32.toInt_toInt64, nI_toInt ha, nI_toInt hc]
    exact Int.bmod_eq_of_le (by omega) (by omega)
  have hy : ((nI sz).toInt64).toInt = (sz : Int) := by rw [Int32.toInt_toInt64, nI_toInt hs]
  unfold lg_cmp
  generalize (nI a).toInt64 + (nI c).toInt64 = u at *
  generalize (nI sz).toInt64 = v at *
  by_cases h1 : u > v
  · rw [if_pos h1]
    have := Int64.lt_iff_toInt_lt.mp h1
    exact ⟨propext ⟨fun _ => by omega, fun _ => by decide⟩, propext ⟨fun z => absurd z (by decide), fun z => by omega⟩⟩
  · rw [if_neg h1]
    have h1 : ¬ v.toInt < u.toInt := fun z => h1 (Int64.lt_iff_toInt_lt.mpr z)
    by_cases h2 : u = v
    · rw [if_pos h2]
      exact ⟨propext ⟨fun z => absurd z (by decide), fun z => by omega⟩, propext ⟨fun _ => by omega, fun _ => by decide⟩⟩
    · rw [if_neg h2]
      exact ⟨propext ⟨fun z => absurd z (by decide), fun z => by omega⟩, propext ⟨fun _ => by omega, fun _ => by decide⟩⟩
theorem MT_copy {X : AmX} {S : SS} {G : GG} (h : MSt S G) (hv : SV S) (a1 a2 a3 a4 a5 : Int32) : MW X 197 [.ref 58, .int a1, .int a2, .int a3, .int a4, .int a5] G (sp_copy S a1 a2 a3 a4 a5) := by
  have hE := h.1
  have f0 := hE.2.1
  have hv8 := hv.1.1.1
  have hm := MS_MR h hv
  unfold MW sp_copy
  have e2 : (nI 1 = nI 0) = False := eq_false (by decide)
  show WP X 197 (am_blk 197 0) [some (.ref 58), some (.int a1), some (.int a2), some (.int a3), some (.int a4), some (.int a5), none] [] G _
  by_cases h1 : inR a1 (nI 0) (nI 3) = true
  rotate_left
  · rw [if_neg (fun z => h1 z.1)]
    rw [Bool.not_eq_true] at h1
    simp (config := { maxSteps := 1000000 }) (disch := first | exact am_nl_i | exact am_nl_r | exact am_nl_n | exact am_l0 | exact am_l1 | exact am_l2 | exact am_l3 | assumption | omega) only [wp_ldc, wp_sipush, wp_ldc_w, wp_lconst, wp_iadd, wp_isub, wp_imul, wp_iand, wp_ior, wp_ixor, wp_ishl, wp_ishr, wp_iushr, wp_idiv, wp_irem, wp_ineg, wp_i2b, wp_i2s, wp_i2c, wp_i2l, wp_ladd, wp_lmul, wp_lcmp, wp_dup_i, wp_dup_r, wp_dup2, wp_pop, wp_getfield, wp_putfield, wp_getstatic, wp_iaload, wp_baload, wp_aaload, wp_iastore, wp_arraylength, wp_goto, wp_fall, wp_ieq, wp_ine, wp_ilt, wp_ige, wp_igt, wp_ile, wp_ceq, wp_cne, wp_clt, wp_cge, wp_cgt, wp_cle, wp_sw, wp_ret0, wp_ret1z, wp_ret1o, wp_ret1, wp_ret2, wp_ret3, wp_ret4, wp_ret5, wp_return, wp_min, wp_max, wp_abs, am_ex, gset_eq, gset_ne, upd_eq, upd_ne, gset_gset, am_ci_1, am_ci_6, am_toList_some, am_toList_none, true_implies, false_implies, and_self, and_true, true_and, not_true_eq_false, not_false_eq_true, imp_self, implies_true, Classical.not_not, if_true, if_false, false_and, and_false, or_false, false_or, true_or, or_true, Nat.reduceAdd, Nat.reduceMul, Nat.reduceSub, Nat.reduceLT, Nat.reduceLeDiff, Nat.reduceEqDiff, Nat.reduceBneDiff, Nat.add_zero, Nat.zero_add, reduceCtorEq, wil0, wal0, wis0, wic0, wil1, wal1, wis1, wic1, wil2, wll2, wal2, wis2, was2, wls2, wic2, wil3, wis3, wic3, wic3m, wic3s, wil4, wis4, wic4, wil5, wis5, wic5, wic5m, wil6, wll6, wal6, wis6, was6, wls6, wic6, wil7, wal7, wis7, was7, wic7, wil8, wis8, wic8, wil9, wis9, wic9, wil10, wis10, wic10, am_nI_inj, am_nI_lt, am_nI_le, nI_add, pk_mul, am_nI_sub, am_add_m1, am_gfs, am_pfs, am_alds, am_asts, am_lens, bs197, am_B197_0, am_B197_14, am_B197_21, am_B197_39, am_B197_46, am_B197_69, am_B197_118, am_B197_125, am_B197_128, am_B197_162, am_B197_165, am_B197_200, C_X5_isPerson, C_X5_isPlace, C_X5_within, C_X5_isKind, C_X5_isSpot, C_X5_isSheet, C_X5_isPrize, C_X5_isAhead, h1, bI_t, bI_f, e2, f0, fcs, C_X5_finding]
    first | exact ⟨rfl, MSt_fnd h (by omega), mfnd_frame⟩ | exact ⟨MSt_fnd h (by omega), mfnd_frame⟩
  by_cases h2 : inR a3 (nI 0) (nI 3) = true
  rotate_left
  · rw [if_neg (fun z => h2 z.2)]
    rw [Bool.not_eq_true] at h2
    simp (config := { maxSteps := 1000000 }) (disch := first | exact am_nl_i | exact am_nl_r | exact am_nl_n | exact am_l0 | exact am_l1 | exact am_l2 | exact am_l3 | assumption | omega) only [wp_ldc, wp_sipush, wp_ldc_w, wp_lconst, wp_iadd, wp_isub, wp_imul, wp_iand, wp_ior, wp_ixor, wp_ishl, wp_ishr, wp_iushr, wp_idiv, wp_irem, wp_ineg, wp_i2b, wp_i2s, wp_i2c, wp_i2l, wp_ladd, wp_lmul, wp_lcmp, wp_dup_i, wp_dup_r, wp_dup2, wp_pop, wp_getfield, wp_putfield, wp_getstatic, wp_iaload, wp_baload, wp_aaload, wp_iastore, wp_arraylength, wp_goto, wp_fall, wp_ieq, wp_ine, wp_ilt, wp_ige, wp_igt, wp_ile, wp_ceq, wp_cne, wp_clt, wp_cge, wp_cgt, wp_cle, wp_sw, wp_ret0, wp_ret1z, wp_ret1o, wp_ret1, wp_ret2, wp_ret3, wp_ret4, wp_ret5, wp_return, wp_min, wp_max, wp_abs, am_ex, gset_eq, gset_ne, upd_eq, upd_ne, gset_gset, am_ci_1, am_ci_6, am_toList_some, am_toList_none, true_implies, false_implies, and_self, and_true, true_and, not_true_eq_false, not_false_eq_true, imp_self, implies_true, Classical.not_not, if_true, if_false, false_and, and_false, or_false, false_or, true_or, or_true, Nat.reduceAdd, Nat.reduceMul, Nat.reduceSub, Nat.reduceLT, Nat.reduceLeDiff, Nat.reduceEqDiff, Nat.reduceBneDiff, Nat.add_zero, Nat.zero_add, reduceCtorEq, wil0, wal0, wis0, wic0, wil1, wal1, wis1, wic1, wil2, wll2, wal2, wis2, was2, wls2, wic2, wil3, wis3, wic3, wic3m, wic3s, wil4, wis4, wic4, wil5, wis5, wic5, wic5m, wil6, wll6, wal6, wis6, was6, wls6, wic6, wil7, wal7, wis7, was7, wic7, wil8, wis8, wic8, wil9, wis9, wic9, wil10, wis10, wic10, am_nI_inj, am_nI_lt, am_nI_le, nI_add, pk_mul, am_nI_sub, am_add_m1, am_gfs, am_pfs, am_alds, am_asts, am_lens, bs197, am_B197_0, am_B197_14, am_B197_21, am_B197_39, am_B197_46, am_B197_69, am_B197_118, am_B197_125, am_B197_128, am_B197_162, am_B197_165, am_B197_200, C_X5_isPerson, C_X5_isPlace, C_X5_within, C_X5_isKind, C_X5_isSpot, C_X5_isSheet, C_X5_isPrize, C_X5_isAhead, h1, h2, bI_t, bI_f, e2, f0, fcs, C_X5_finding]
    first | exact ⟨rfl, MSt_fnd h (by omega), mfnd_frame⟩ | exact ⟨MSt_fnd h (by omega), mfnd_frame⟩
  rw [if_pos ⟨h1, h2⟩]
  obtain ⟨p, hp, rfl, h1'⟩ := rng_of (by omega) h1
  obtain ⟨q, hq, rfl, h2'⟩ := rng_of (by omega) h2
  rw [aN_nI (show p < 2 ^ 31 by omega), aN_nI (show q < 2 ^ 31 by omega)]
  have hp4 : p < 4 := by omega
  have hq4 : q < 4 := by omega
  obtain ⟨w1, w2, w3, w4, w5⟩ := ms_sh h hv hp4
  obtain ⟨u1, u2, u3, u4, u5⟩ := ms_sh h hv hq4
  by_cases m1 : S.2.2.2.1.1 p = 0
  · rw [if_pos (Or.inl m1)]
    have q1 := eq_true m1
    simp (config := { maxSteps := 1000000 }) (disch := first | exact am_nl_i | exact am_nl_r | exact am_nl_n | exact am_l0 | exact am_l1 | exact am_l2 | exact am_l3 | assumption | omega) only [wp_ldc, wp_sipush, wp_ldc_w, wp_lconst, wp_iadd, wp_isub, wp_imul, wp_iand, wp_ior, wp_ixor, wp_ishl, wp_ishr, wp_iushr, wp_idiv, wp_irem, wp_ineg, wp_i2b, wp_i2s, wp_i2c, wp_i2l, wp_ladd, wp_lmul, wp_lcmp, wp_dup_i, wp_dup_r, wp_dup2, wp_pop, wp_getfield, wp_putfield, wp_getstatic, wp_iaload, wp_baload, wp_aaload, wp_iastore, wp_arraylength, wp_goto, wp_fall, wp_ieq, wp_ine, wp_ilt, wp_ige, wp_igt, wp_ile, wp_ceq, wp_cne, wp_clt, wp_cge, wp_cgt, wp_cle, wp_sw, wp_ret0, wp_ret1z, wp_ret1o, wp_ret1, wp_ret2, wp_ret3, wp_ret4, wp_ret5, wp_return, wp_min, wp_max, wp_abs, am_ex, gset_eq, gset_ne, upd_eq, upd_ne, gset_gset, am_ci_1, am_ci_6, am_toList_some, am_toList_none, true_implies, false_implies, and_self, and_true, true_and, not_true_eq_false, not_false_eq_true, imp_self, implies_true, Classical.not_not, if_true, if_false, false_and, and_false, or_false, false_or, true_or, or_true, Nat.reduceAdd, Nat.reduceMul, Nat.reduceSub, Nat.reduceLT, Nat.reduceLeDiff, Nat.reduceEqDiff, Nat.reduceBneDiff, Nat.add_zero, Nat.zero_add, reduceCtorEq, wil0, wal0, wis0, wic0, wil1, wal1, wis1, wic1, wil2, wll2, wal2, wis2, was2, wls2, wic2, wil3, wis3, wic3, wic3m, wic3s, wil4, wis4, wic4, wil5, wis5, wic5, wic5m, wil6, wll6, wal6, wis6, was6, wls6, wic6, wil7, wal7, wis7, was7, wic7, wil8, wis8, wic8, wil9, wis9, wic9, wil10, wis10, wic10, am_nI_inj, am_nI_lt, am_nI_le, nI_add, pk_mul, am_nI_sub, am_add_m1, am_gfs, am_pfs, am_alds, am_asts, am_lens, bk197_0, bk197_14, bk197_21, bk197_39, am_B197_0, am_B197_14, am_B197_21, am_B197_39, C_X5_isSheet, h1', h2', bI_t, e2, w1, q1, fcs, C_X5_finding]
    first | exact ⟨rfl, MSt_fnd h (by omega), mfnd_frame⟩ | exact ⟨MSt_fnd h (by omega), mfnd_frame⟩
  have q1 := eq_false m1
  by_cases m2 : S.2.2.2.1.1 q = 0
  · rw [if_pos (Or.inr m2)]
    have q2 := eq_true m2
    simp (config := { maxSteps := 1000000 }) (disch := first | exact am_nl_i | exact am_nl_r | exact am_nl_n | exact am_l0 | exact am_l1 | exact am_l2 | exact am_l3 | assumption | omega) only [wp_ldc, wp_sipush, wp_ldc_w, wp_lconst, wp_iadd, wp_isub, wp_imul, wp_iand, wp_ior, wp_ixor, wp_ishl, wp_ishr, wp_iushr, wp_idiv, wp_irem, wp_ineg, wp_i2b, wp_i2s, wp_i2c, wp_i2l, wp_ladd, wp_lmul, wp_lcmp, wp_dup_i, wp_dup_r, wp_dup2, wp_pop, wp_getfield, wp_putfield, wp_getstatic, wp_iaload, wp_baload, wp_aaload, wp_iastore, wp_arraylength, wp_goto, wp_fall, wp_ieq, wp_ine, wp_ilt, wp_ige, wp_igt, wp_ile, wp_ceq, wp_cne, wp_clt, wp_cge, wp_cgt, wp_cle, wp_sw, wp_ret0, wp_ret1z, wp_ret1o, wp_ret1, wp_ret2, wp_ret3, wp_ret4, wp_ret5, wp_return, wp_min, wp_max, wp_abs, am_ex, gset_eq, gset_ne, upd_eq, upd_ne, gset_gset, am_ci_1, am_ci_6, am_toList_some, am_toList_none, true_implies, false_implies, and_self, and_true, true_and, not_true_eq_false, not_false_eq_true, imp_self, implies_true, Classical.not_not, if_true, if_false, false_and, and_false, or_false, false_or, true_or, or_true, Nat.reduceAdd, Nat.reduceMul, Nat.reduceSub, Nat.reduceLT, Nat.reduceLeDiff, Nat.reduceEqDiff, Nat.reduceBneDiff, Nat.add_zero, Nat.zero_add, reduceCtorEq, wil0, wal0, wis0, wic0, wil1, wal1, wis1, wic1, wil2, wll2, wal2, wis2, was2, wls2, wic2, wil3, wis3, wic3, wic3m, wic3s, wil4, wis4, wic4, wil5, wis5, wic5, wic5m, wil6, wll6, wal6, wis6, was6, wls6, wic6, wil7, wal7, wis7, was7, wic7, wil8, wis8, wic8, wil9, wis9, wic9, wil10, wis10, wic10, am_nI_inj, am_nI_lt, am_nI_le, nI_add, pk_mul, am_nI_sub, am_add_m1, am_gfs, am_pfs, am_alds, am_asts, am_lens, bk197_0, bk197_14, bk197_21, bk197_39, am_B197_0, am_B197_14, am_B197_21, am_B197_39, C_X5_isSheet, h1', h2', bI_t, e2, w1, u1, q1, q2, fcs, C_X5_finding]
    first | exact ⟨rfl, MSt_fnd h (by omega), mfnd_frame⟩ | exact ⟨MSt_fnd h (by omega), mfnd_frame⟩
  have q2 := eq_false m2
  rw [if_neg (fun z => z.elim m1 m2)]
  by_cases m3 : S.2.2.2.1.1 p = S.2.2.2.1.1 q
  rotate_left
  · rw [if_pos m3]
    have q3 := eq_false m3
    simp (config := { maxSteps := 1000000 }) (disch := first | exact am_nl_i | exact am_nl_r | exact am_nl_n | exact am_l0 | exact am_l1 | exact am_l2 | exact am_l3 | assumption | omega) only [wp_ldc, wp_sipush, wp_ldc_w, wp_lconst, wp_iadd, wp_isub, wp_imul, wp_iand, wp_ior, wp_ixor, wp_ishl, wp_ishr, wp_iushr, wp_idiv, wp_irem, wp_ineg, wp_i2b, wp_i2s, wp_i2c, wp_i2l, wp_ladd, wp_lmul, wp_lcmp, wp_dup_i, wp_dup_r, wp_dup2, wp_pop, wp_getfield, wp_putfield, wp_getstatic, wp_iaload, wp_baload, wp_aaload, wp_iastore, wp_arraylength, wp_goto, wp_fall, wp_ieq, wp_ine, wp_ilt, wp_ige, wp_igt, wp_ile, wp_ceq, wp_cne, wp_clt, wp_cge, wp_cgt, wp_cle, wp_sw, wp_ret0, wp_ret1z, wp_ret1o, wp_ret1, wp_ret2, wp_ret3, wp_ret4, wp_ret5, wp_return, wp_min, wp_max, wp_abs, am_ex, gset_eq, gset_ne, upd_eq, upd_ne, gset_gset, am_ci_1, am_ci_6, am_toList_some, am_toList_none, true_implies, false_implies, and_self, and_true, true_and, not_true_eq_false, not_false_eq_true, imp_self, implies_true, Classical.not_not, if_true, if_false, false_and, and_false, or_false, false_or, true_or, or_true, Nat.reduceAdd, Nat.reduceMul, Nat.reduceSub, Nat.reduceLT, Nat.reduceLeDiff, Nat.reduceEqDiff, Nat.reduceBneDiff, Nat.add_zero, Nat.zero_add, reduceCtorEq, wil0, wal0, wis0, wic0, wil1, wal1, wis1, wic1, wil2, wll2, wal2, wis2, was2, wls2, wic2, wil3, wis3, wic3, wic3m, wic3s, wil4, wis4, wic4, wil5, wis5, wic5, wic5m, wil6, wll6, wal6, wis6, was6, wls6, wic6, wil7, wal7, wis7, was7, wic7, wil8, wis8, wic8, wil9, wis9, wic9, wil10, wis10, wic10, am_nI_inj, am_nI_lt, am_nI_le, nI_add, pk_mul, am_nI_sub, am_add_m1, am_gfs, am_pfs, am_alds, am_asts, am_lens, bk197_0, bk197_14, bk197_21, bk197_39, bk197_46, am_B197_0, am_B197_14, am_B197_21, am_B197_39, am_B197_46, C_X5_isSheet, h1', h2', bI_t, e2, w1, u1, q1, q2, q3, fcs, C_X5_finding]
    first | exact ⟨rfl, MSt_fnd h (by omega), mfnd_frame⟩ | exact ⟨MSt_fnd h (by omega), mfnd_frame⟩
  have q3 := eq_true m3
  rw [if_neg (fun z => z m3)]
  have hbey : ∀ Q : Option Value → GG → Prop, (∀ G', G' = gset G 62 (upd (upd (G 62) 1 (G 62 1 + nI 1)) 0 (G 62 0 + nI 1)) → Q (some (.int (fc 0))) G') → WP X 197 (am_blk 197 (Int.toNat 118)) [some (.ref 58), some (.int (nI p)), some (.int a2), some (.int (nI q)), some (.int a4), some (.int a5), none] [] G Q := by
    intro Q hQ
    have hQ := hQ _ rfl
    simp (config := { maxSteps := 1000000 }) (disch := first | exact am_nl_i | exact am_nl_r | exact am_nl_n | exact am_l0 | exact am_l1 | exact am_l2 | exact am_l3 | assumption | omega) only [wp_ldc, wp_sipush, wp_ldc_w, wp_lconst, wp_iadd, wp_isub, wp_imul, wp_iand, wp_ior, wp_ixor, wp_ishl, wp_ishr, wp_iushr, wp_idiv, wp_irem, wp_ineg, wp_i2b, wp_i2s, wp_i2c, wp_i2l, wp_ladd, wp_lmul, wp_lcmp, wp_dup_i, wp_dup_r, wp_dup2, wp_pop, wp_getfield, wp_putfield, wp_getstatic, wp_iaload, wp_baload, wp_aaload, wp_iastore, wp_arraylength, wp_goto, wp_fall, wp_ieq, wp_ine, wp_ilt, wp_ige, wp_igt, wp_ile, wp_ceq, wp_cne, wp_clt, wp_cge, wp_cgt, wp_cle, wp_sw, wp_ret0, wp_ret1z, wp_ret1o, wp_ret1, wp_ret2, wp_ret3, wp_ret4, wp_ret5, wp_return, wp_min, wp_max, wp_abs, am_ex, gset_eq, gset_ne, upd_eq, upd_ne, gset_gset, am_ci_1, am_ci_6, am_toList_some, am_toList_none, true_implies, false_implies, and_self, and_true, true_and, not_true_eq_false, not_false_eq_true, imp_self, implies_true, Classical.not_not, if_true, if_false, false_and, and_false, or_false, false_or, true_or, or_true, Nat.reduceAdd, Nat.reduceMul, Nat.reduceSub, Nat.reduceLT, Nat.reduceLeDiff, Nat.reduceEqDiff, Nat.reduceBneDiff, Nat.add_zero, Nat.zero_add, reduceCtorEq, wil0, wal0, wis0, wic0, wil1, wal1, wis1, wic1, wil2, wll2, wal2, wis2, was2, wls2, wic2, wil3, wis3, wic3, wic3m, wic3s, wil4, wis4, wic4, wil5, wis5, wic5, wic5m, wil6, wll6, wal6, wis6, was6, wls6, wic6, wil7, wal7, wis7, was7, wic7, wil8, wis8, wic8, wil9, wis9, wic9, wil10, wis10, wic10, am_nI_inj, am_nI_lt, am_nI_le, nI_add, pk_mul, am_nI_sub, am_add_m1, am_gfs, am_pfs, am_alds, am_asts, am_lens, bk197_118, am_B197_118, fcs, C_X5_finding]
    exact hQ
  have hto : ∀ Q : Option Value → GG → Prop, WP X 197 (am_blk 197 (Int.toNat 69)) [some (.ref 58), some (.int (nI p)), some (.int a2), some (.int (nI q)), some (.int a4), some (.int a5), none] [] G Q → WP X 197 (am_blk 197 0) [some (.ref 58), some (.int (nI p)), some (.int a2), some (.int (nI q)), some (.int a4), some (.int a5), none] [] G Q := by
    intro Q hb
    simp (config := { maxSteps := 1000000 }) (disch := first | exact am_nl_i | exact am_nl_r | exact am_nl_n | exact am_l0 | exact am_l1 | exact am_l2 | exact am_l3 | assumption | omega) only [wp_ldc, wp_sipush, wp_ldc_w, wp_lconst, wp_iadd, wp_isub, wp_imul, wp_iand, wp_ior, wp_ixor, wp_ishl, wp_ishr, wp_iushr, wp_idiv, wp_irem, wp_ineg, wp_i2b, wp_i2s, wp_i2c, wp_i2l, wp_ladd, wp_lmul, wp_lcmp, wp_dup_i, wp_dup_r, wp_dup2, wp_pop, wp_getfield, wp_putfield, wp_getstatic, wp_iaload, wp_baload, wp_aaload, wp_iastore, wp_arraylength, wp_goto, wp_fall, wp_ieq, wp_ine, wp_ilt, wp_ige, wp_igt, wp_ile, wp_ceq, wp_cne, wp_clt, wp_cge, wp_cgt, wp_cle, wp_sw, wp_ret0, wp_ret1z, wp_ret1o, wp_ret1, wp_ret2, wp_ret3, wp_ret4, wp_ret5, wp_return, wp_min, wp_max, wp_abs, am_ex, gset_eq, gset_ne, upd_eq, upd_ne, gset_gset, am_ci_1, am_ci_6, am_toList_some, am_toList_none, true_implies, false_implies, and_self, and_true, true_and, not_true_eq_false, not_false_eq_true, imp_self, implies_true, Classical.not_not, if_true, if_false, false_and, and_false, or_false, false_or, true_or, or_true, Nat.reduceAdd, Nat.reduceMul, Nat.reduceSub, Nat.reduceLT, Nat.reduceLeDiff, Nat.reduceEqDiff, Nat.reduceBneDiff, Nat.add_zero, Nat.zero_add, reduceCtorEq, wil0, wal0, wis0, wic0, wil1, wal1, wis1, wic1, wil2, wll2, wal2, wis2, was2, wls2, wic2, wil3, wis3, wic3, wic3m, wic3s, wil4, wis4, wic4, wil5, wis5, wic5, wic5m, wil6, wll6, wal6, wis6, was6, wls6, wic6, wil7, wal7, wis7, was7, wic7, wil8, wis8, wic8, wil9, wis9, wic9, wil10, wis10, wic10, am_nI_inj, am_nI_lt, am_nI_le, nI_add, pk_mul, am_nI_sub, am_add_m1, am_gfs, am_pfs, am_alds, am_asts, am_lens, bk197_0, bk197_21, bk197_46, am_B197_0, am_B197_21, am_B197_46, C_X5_isSheet, h1', h2', bI_t, e2, w1, u1, q1, q2, q3]
    exact hb
  refine hto _ ?_
  have hfail : ¬ (hasB (S.2.2.2.1.2.1 p) a2 a5 = true ∧ hasB (S.2.2.2.1.2.1 q) a4 a5 = true) → WP X 197 (am_blk 197 (Int.toNat 118)) [some (.ref 58), some (.int (nI p)), some (.int a2), some (.int (nI q)), some (.int a4), some (.int a5), none] [] G (fun w G1 => w = some (.int (if hasB (S.2.2.2.1.2.1 p) a2 a5 = true ∧ hasB (S.2.2.2.1.2.1 q) a4 a5 = true then (a5, sSheet S q (S.2.2.2.1.1 q) (S.2.2.2.1.2.1 q) (va_cpy (S.2.2.2.1.2.2 p) (S.2.2.2.1.2.2 q) (aN a2) (aN a4) (aN a5))) else sFnd S 0).1) ∧ MSt (if hasB (S.2.2.2.1.2.1 p) a2 a5 = true ∧ hasB (S.2.2.2.1.2.1 q) a4 a5 = true then (a5, sSheet S q (S.2.2.2.1.1 q) (S.2.2.2.1.2.1 q) (va_cpy (S.2.2.2.1.2.2 p) (S.2.2.2.1.2.2 q) (aN a2) (aN a4) (aN a5))) else sFnd S 0).2 G1 ∧ ∀ o, o < 58 → G1 o = G o) := by
    intro hn
    rw [if_neg hn]
    refine hbey _ (fun G' hG => ?_)
    subst hG
    exact ⟨rfl, MSt_fnd h (f := 0) (by omega), mfnd_frame⟩
  by_cases n2 : a2 < nI 0
  · have hf := hfail (fun z => by rw [hasB_neg (Or.inl n2)] at z; exact absurd z.1 Bool.false_ne_true)
    have r1 := eq_true n2
    simp (config := { maxSteps := 1000000 }) (disch := first | exact am_nl_i | exact am_nl_r | exact am_nl_n | exact am_l0 | exact am_l1 | exact am_l2 | exact am_l3 | assumption | omega) only [wp_ldc, wp_sipush, wp_ldc_w, wp_lconst, wp_iadd, wp_isub, wp_imul, wp_iand, wp_ior, wp_ixor, wp_ishl, wp_ishr, wp_iushr, wp_idiv, wp_irem, wp_ineg, wp_i2b, wp_i2s, wp_i2c, wp_i2l, wp_ladd, wp_lmul, wp_lcmp, wp_dup_i, wp_dup_r, wp_dup2, wp_pop, wp_getfield, wp_putfield, wp_getstatic, wp_iaload, wp_baload, wp_aaload, wp_iastore, wp_arraylength, wp_goto, wp_fall, wp_ieq, wp_ine, wp_ilt, wp_ige, wp_igt, wp_ile, wp_ceq, wp_cne, wp_clt, wp_cge, wp_cgt, wp_cle, wp_sw, wp_ret0, wp_ret1z, wp_ret1o, wp_ret1, wp_ret2, wp_ret3, wp_ret4, wp_ret5, wp_return, wp_min, wp_max, wp_abs, am_ex, gset_eq, gset_ne, upd_eq, upd_ne, gset_gset, am_ci_1, am_ci_6, am_toList_some, am_toList_none, true_implies, false_implies, and_self, and_true, true_and, not_true_eq_false, not_false_eq_true, imp_self, implies_true, Classical.not_not, if_true, if_false, false_and, and_false, or_false, false_or, true_or, or_true, Nat.reduceAdd, Nat.reduceMul, Nat.reduceSub, Nat.reduceLT, Nat.reduceLeDiff, Nat.reduceEqDiff, Nat.reduceBneDiff, Nat.add_zero, Nat.zero_add, reduceCtorEq, wil0, wal0, wis0, wic0, wil1, wal1, wis1, wic1, wil2, wll2, wal2, wis2, was2, wls2, wic2, wil3, wis3, wic3, wic3m, wic3s, wil4, wis4, wic4, wil5, wis5, wic5, wic5m, wil6, wll6, wal6, wis6, was6, wls6, wic6, wil7, wal7, wis7, was7, wic7, wil8, wis8, wic8, wil9, wis9, wic9, wil10, wis10, wic10, am_nI_inj, am_nI_lt, am_nI_le, nI_add, pk_mul, am_nI_sub, am_add_m1, am_gfs, am_pfs, am_alds, am_asts, am_lens, bk197_69, am_B197_69, r1]
    exact hf
  have r1 := eq_false n2
  by_cases n4 : a4 < nI 0
  · have hf := hfail (fun z => by rw [hasB_neg (sz := S.2.2.2.1.2.1 q) (Or.inl n4)] at z; exact absurd z.2 Bool.false_ne_true)
    have r2 := eq_true n4
    simp (config := { maxSteps := 1000000 }) (disch := first | exact am_nl_i | exact am_nl_r | exact am_nl_n | exact am_l0 | exact am_l1 | exact am_l2 | exact am_l3 | assumption | omega) only [wp_ldc, wp_sipush, wp_ldc_w, wp_lconst, wp_iadd, wp_isub, wp_imul, wp_iand, wp_ior, wp_ixor, wp_ishl, wp_ishr, wp_iushr, wp_idiv, wp_irem, wp_ineg, wp_i2b, wp_i2s, wp_i2c, wp_i2l, wp_ladd, wp_lmul, wp_lcmp, wp_dup_i, wp_dup_r, wp_dup2, wp_pop, wp_getfield, wp_putfield, wp_getstatic, wp_iaload, wp_baload, wp_aaload, wp_iastore, wp_arraylength, wp_goto, wp_fall, wp_ieq, wp_ine, wp_ilt, wp_ige, wp_igt, wp_ile, wp_ceq, wp_cne, wp_clt, wp_cge, wp_cgt, wp_cle, wp_sw, wp_ret0, wp_ret1z, wp_ret1o, wp_ret1, wp_ret2, wp_ret3, wp_ret4, wp_ret5, wp_return, wp_min, wp_max, wp_abs, am_ex, gset_eq, gset_ne, upd_eq, upd_ne, gset_gset, am_ci_1, am_ci_6, am_toList_some, am_toList_none, true_implies, false_implies, and_self, and_true, true_and, not_true_eq_false, not_false_eq_true, imp_self, implies_true, Classical.not_not, if_true, if_false, false_and, and_false, or_false, false_or, true_or, or_true, Nat.reduceAdd, Nat.reduceMul, Nat.reduceSub, Nat.reduceLT, Nat.reduceLeDiff, Nat.reduceEqDiff, Nat.reduceBneDiff, Nat.add_zero, Nat.zero_add, reduceCtorEq, wil0, wal0, wis0, wic0, wil1, wal1, wis1, wic1, wil2, wll2, wal2, wis2, was2, wls2, wic2, wil3, wis3, wic3, wic3m, wic3s, wil4, wis4, wic4, wil5, wis5, wic5, wic5m, wil6, wll6, wal6, wis6, was6, wls6, wic6, wil7, wal7, wis7, was7, wic7, wil8, wis8, wic8, wil9, wis9, wic9, wil10, wis10, wic10, am_nI_inj, am_nI_lt, am_nI_le, nI_add, pk_mul, am_nI_sub, am_add_m1, am_gfs, am_pfs, am_alds, am_asts, am_lens, bk197_69, am_B197_69, r1, r2]
    exact hf
  have r2 := eq_false n4
  by_cases n5 : a5 < nI 0
  · have hf := hfail (fun z => by rw [hasB_neg (Or.inr n5)] at z; exact absurd z.1 Bool.false_ne_true)
    have r3 := eq_true n5
    simp (config := { maxSteps := 1000000 }) (disch := first | exact am_nl_i | exact am_nl_r | exact am_nl_n | exact am_l0 | exact am_l1 | exact am_l2 | exact am_l3 | assumption | omega) only [wp_ldc, wp_sipush, wp_ldc_w, wp_lconst, wp_iadd, wp_isub, wp_imul, wp_iand, wp_ior, wp_ixor, wp_ishl, wp_ishr, wp_iushr, wp_idiv, wp_irem, wp_ineg, wp_i2b, wp_i2s, wp_i2c, wp_i2l, wp_ladd, wp_lmul, wp_lcmp, wp_dup_i, wp_dup_r, wp_dup2, wp_pop, wp_getfield, wp_putfield, wp_getstatic, wp_iaload, wp_baload, wp_aaload, wp_iastore, wp_arraylength, wp_goto, wp_fall, wp_ieq, wp_ine, wp_ilt, wp_ige, wp_igt, wp_ile, wp_ceq, wp_cne, wp_clt, wp_cge, wp_cgt, wp_cle, wp_sw, wp_ret0, wp_ret1z, wp_ret1o, wp_ret1, wp_ret2, wp_ret3, wp_ret4, wp_ret5, wp_return, wp_min, wp_max, wp_abs, am_ex, gset_eq, gset_ne, upd_eq, upd_ne, gset_gset, am_ci_1, am_ci_6, am_toList_some, am_toList_none, true_implies, false_implies, and_self, and_true, true_and, not_true_eq_false, not_false_eq_true, imp_self, implies_true, Classical.not_not, if_true, if_false, false_and, and_false, or_false, false_or, true_or, or_true, Nat.reduceAdd, Nat.reduceMul, Nat.reduceSub, Nat.reduceLT, Nat.reduceLeDiff, Nat.reduceEqDiff, Nat.reduceBneDiff, Nat.add_zero, Nat.zero_add, reduceCtorEq, wil0, wal0, wis0, wic0, wil1, wal1, wis1, wic1, wil2, wll2, wal2, wis2, was2, wls2, wic2, wil3, wis3, wic3, wic3m, wic3s, wil4, wis4, wic4, wil5, wis5, wic5, wic5m, wil6, wll6, wal6, wis6, was6, wls6, wic6, wil7, wal7, wis7, was7, wic7, wil8, wis8, wic8, wil9, wis9, wic9, wil10, wis10, wic10, am_nI_inj, am_nI_lt, am_nI_le, nI_add, pk_mul, am_nI_sub, am_add_m1, am_gfs, am_pfs, am_alds, am_asts, am_lens, bk197_69, am_B197_69, r1, r2, r3]
    exact hf
  have r3 := eq_false n5
  obtain ⟨a, ha, rfl⟩ := Int32_neg_of n2
  obtain ⟨d, hd, rfl⟩ := Int32_neg_of n4
  obtain ⟨c, hc, rfl⟩ := Int32_neg_of n5
  obtain ⟨g1, g2⟩ := lgc (sz := S.2.2.2.1.2.1 p) ha hc (by omega)
  obtain ⟨g3, g4⟩ := lgc (sz := S.2.2.2.1.2.1 q) hd hc (by omega)
  rw [am_nI_lt ha (by omega)] at r1
  rw [am_nI_lt hd (by omega)] at r2
  rw [am_nI_lt hc (by omega)] at r3
  by_cases n6 : S.2.2.2.1.2.1 p < a + c
  · have hf := hfail (fun z => by rw [hasB_nat w5 ha hc, decide_eq_false (by omega)] at z; exact absurd z.1 Bool.false_ne_true)
    have g1 := g1.trans (eq_true n6)
    simp (config := { maxSteps := 1000000 }) (disch := first | exact am_nl_i | exact am_nl_r | exact am_nl_n | exact am_l0 | exact am_l1 | exact am_l2 | exact am_l3 | assumption | omega) only [wp_ldc, wp_sipush, wp_ldc_w, wp_lconst, wp_iadd, wp_isub, wp_imul, wp_iand, wp_ior, wp_ixor, wp_ishl, wp_ishr, wp_iushr, wp_idiv, wp_irem, wp_ineg, wp_i2b, wp_i2s, wp_i2c, wp_i2l, wp_ladd, wp_lmul, wp_lcmp, wp_dup_i, wp_dup_r, wp_dup2, wp_pop, wp_getfield, wp_putfield, wp_getstatic, wp_iaload, wp_baload, wp_aaload, wp_iastore, wp_arraylength, wp_goto, wp_fall, wp_ieq, wp_ine, wp_ilt, wp_ige, wp_igt, wp_ile, wp_ceq, wp_cne, wp_clt, wp_cge, wp_cgt, wp_cle, wp_sw, wp_ret0, wp_ret1z, wp_ret1o, wp_ret1, wp_ret2, wp_ret3, wp_ret4, wp_ret5, wp_return, wp_min, wp_max, wp_abs, am_ex, gset_eq, gset_ne, upd_eq, upd_ne, gset_gset, am_ci_1, am_ci_6, am_toList_some, am_toList_none, true_implies, false_implies, and_self, and_true, true_and, not_true_eq_false, not_false_eq_true, imp_self, implies_true, Classical.not_not, if_true, if_false, false_and, and_false, or_false, false_or, true_or, or_true, Nat.reduceAdd, Nat.reduceMul, Nat.reduceSub, Nat.reduceLT, Nat.reduceLeDiff, Nat.reduceEqDiff, Nat.reduceBneDiff, Nat.add_zero, Nat.zero_add, reduceCtorEq, wil0, wal0, wis0, wic0, wil1, wal1, wis1, wic1, wil2, wll2, wal2, wis2, was2, wls2, wic2, wil3, wis3, wic3, wic3m, wic3s, wil4, wis4, wic4, wil5, wis5, wic5, wic5m, wil6, wll6, wal6, wis6, was6, wls6, wic6, wil7, wal7, wis7, was7, wic7, wil8, wis8, wic8, wil9, wis9, wic9, wil10, wis10, wic10, am_nI_inj, am_nI_lt, am_nI_le, nI_add, pk_mul, am_nI_sub, am_add_m1, am_gfs, am_pfs, am_alds, am_asts, am_lens, bk197_69, am_B197_69, r1, r2, r3, w2, g1]
    exact hf
  have g1 := g1.trans (eq_false n6)
  by_cases n7 : S.2.2.2.1.2.1 q < d + c
  · have hf := hfail (fun z => by rw [hasB_nat u5 hd hc, decide_eq_false (by omega)] at z; exact absurd z.2 Bool.false_ne_true)
    have g4 := g4.trans (eq_false (by omega))
    simp (config := { maxSteps := 1000000 }) (disch := first | exact am_nl_i | exact am_nl_r | exact am_nl_n | exact am_l0 | exact am_l1 | exact am_l2 | exact am_l3 | assumption | omega) only [wp_ldc, wp_sipush, wp_ldc_w, wp_lconst, wp_iadd, wp_isub, wp_imul, wp_iand, wp_ior, wp_ixor, wp_ishl, wp_ishr, wp_iushr, wp_idiv, wp_irem, wp_ineg, wp_i2b, wp_i2s, wp_i2c, wp_i2l, wp_ladd, wp_lmul, wp_lcmp, wp_dup_i, wp_dup_r, wp_dup2, wp_pop, wp_getfield, wp_putfield, wp_getstatic, wp_iaload, wp_baload, wp_aaload, wp_iastore, wp_arraylength, wp_goto, wp_fall, wp_ieq, wp_ine, wp_ilt, wp_ige, wp_igt, wp_ile, wp_ceq, wp_cne, wp_clt, wp_cge, wp_cgt, wp_cle, wp_sw, wp_ret0, wp_ret1z, wp_ret1o, wp_ret1, wp_ret2, wp_ret3, wp_ret4, wp_ret5, wp_return, wp_min, wp_max, wp_abs, am_ex, gset_eq, gset_ne, upd_eq, upd_ne, gset_gset, am_ci_1, am_ci_6, am_toList_some, am_toList_none, true_implies, false_implies, and_self, and_true, true_and, not_true_eq_false, not_false_eq_true, imp_self, implies_true, Classical.not_not, if_true, if_false, false_and, and_false, or_false, false_or, true_or, or_true, Nat.reduceAdd, Nat.reduceMul, Nat.reduceSub, Nat.reduceLT, Nat.reduceLeDiff, Nat.reduceEqDiff, Nat.reduceBneDiff, Nat.add_zero, Nat.zero_add, reduceCtorEq, wil0, wal0, wis0, wic0, wil1, wal1, wis1, wic1, wil2, wll2, wal2, wis2, was2, wls2, wic2, wil3, wis3, wic3, wic3m, wic3s, wil4, wis4, wic4, wil5, wis5, wic5, wic5m, wil6, wll6, wal6, wis6, was6, wls6, wic6, wil7, wal7, wis7, was7, wic7, wil8, wis8, wic8, wil9, wis9, wic9, wil10, wis10, wic10, am_nI_inj, am_nI_lt, am_nI_le, nI_add, pk_mul, am_nI_sub, am_add_m1, am_gfs, am_pfs, am_alds, am_asts, am_lens, bk197_69, am_B197_69, r1, r2, r3, w2, u2, g1, g4]
    exact hf
  have g4 := g4.trans (eq_true (by omega))
  rw [if_pos ⟨by rw [hasB_nat w5 ha hc]; exact decide_eq_true (by omega), by rw [hasB_nat u5 hd hc]; exact decide_eq_true (by omega)⟩, aN_nI ha, aN_nI hd, aN_nI hc]
  generalize hQ : (fun (v : Option Value) (G1 : GG) => v = some (.int (nI c, sSheet S q (S.2.2.2.1.1 q) (S.2.2.2.1.2.1 q) (va_cpy (S.2.2.2.1.2.2 p) (S.2.2.2.1.2.2 q) a d c)).1) ∧ MSt (nI c, sSheet S q (S.2.2.2.1.1 q) (S.2.2.2.1.2.1 q) (va_cpy (S.2.2.2.1.2.2 p) (S.2.2.2.1.2.2 q) a d c)).2 G1 ∧ ∀ o, o < 58 → G1 o = G o) = Q
  have key2 : ∀ e i : Nat, i + e = c → ∀ G' : GG, (∀ o, ¬ o = 69 → ¬ o = 70 → G' o = G o) → (∀ j, j < c → G' 70 j = G 69 (40 * p + a + j)) → (∀ j, G' 69 j = if 40 * q + d ≤ j ∧ j < 40 * q + d + i then G 69 (40 * p + a + (j - (40 * q + d))) else G 69 j) → WP X 197 (am_blk 197 165) [some (.ref 58), some (.int (nI p)), some (.int (nI a)), some (.int (nI q)), some (.int (nI d)), some (.int (nI c)), some (.int (nI i))] [] G' Q := by
    intro e
    induction e with
    | zero =>
      intro i hi G' k1 k2 k3
      obtain rfl : i = c := by omega
      rw [bh197_165]
      simp (config := { maxSteps := 1000000 }) (disch := first | exact am_nl_i | exact am_nl_r | exact am_nl_n | exact am_l0 | exact am_l1 | exact am_l2 | exact am_l3 | assumption | omega) only [wp_ldc, wp_sipush, wp_ldc_w, wp_lconst, wp_iadd, wp_isub, wp_imul, wp_iand, wp_ior, wp_ixor, wp_ishl, wp_ishr, wp_iushr, wp_idiv, wp_irem, wp_ineg, wp_i2b, wp_i2s, wp_i2c, wp_i2l, wp_ladd, wp_lmul, wp_lcmp, wp_dup_i, wp_dup_r, wp_dup2, wp_pop, wp_getfield, wp_putfield, wp_getstatic, wp_iaload, wp_baload, wp_aaload, wp_iastore, wp_arraylength, wp_goto, wp_fall, wp_ieq, wp_ine, wp_ilt, wp_ige, wp_igt, wp_ile, wp_ceq, wp_cne, wp_clt, wp_cge, wp_cgt, wp_cle, wp_sw, wp_ret0, wp_ret1z, wp_ret1o, wp_ret1, wp_ret2, wp_ret3, wp_ret4, wp_ret5, wp_return, wp_min, wp_max, wp_abs, am_ex, gset_eq, gset_ne, upd_eq, upd_ne, gset_gset, am_ci_1, am_ci_6, am_toList_some, am_toList_none, true_implies, false_implies, and_self, and_true, true_and, not_true_eq_false, not_false_eq_true, imp_self, implies_true, Classical.not_not, if_true, if_false, false_and, and_false, or_false, false_or, true_or, or_true, Nat.reduceAdd, Nat.reduceMul, Nat.reduceSub, Nat.reduceLT, Nat.reduceLeDiff, Nat.reduceEqDiff, Nat.reduceBneDiff, Nat.add_zero, Nat.zero_add, reduceCtorEq, wil0, wal0, wis0, wic0, wil1, wal1, wis1, wic1, wil2, wll2, wal2, wis2, was2, wls2, wic2, wil3, wis3, wic3, wic3m, wic3s, wil4, wis4, wic4, wil5, wis5, wic5, wic5m, wil6, wll6, wal6, wis6, was6, wls6, wic6, wil7, wal7, wis7, was7, wic7, wil8, wis8, wic8, wil9, wis9, wic9, wil10, wis10, wic10, am_nI_inj, am_nI_lt, am_nI_le, nI_add, pk_mul, am_nI_sub, am_add_m1, am_gfs, am_pfs, am_alds, am_asts, am_lens, bk197_200, am_B197_165, am_B197_200, Nat.le_refl]
      rw [← hQ]
      refine ⟨rfl, MSt_sheet h (fun o h1 h2 h3 h4 => k1 o h3 h4) (fun s hs => ?_) (fun s hs => ?_) (fun s j hs hj => ?_), fun o ho => k1 o (by omega) (by omega)⟩
      · rw [k1 67 (by omega) (by omega)]
        by_cases e : s = q
        · rw [if_pos e, e]; exact u1
        · rw [if_neg e]
      · rw [k1 68 (by omega) (by omega)]
        by_cases e : s = q
        · rw [if_pos e, e]; exact u2
        · rw [if_neg e]
      · rw [k3]
        by_cases e : s = q
        · subst e
          rw [if_pos rfl]
          unfold va_cpy
          by_cases hr : d ≤ j ∧ j < d + i
          · rw [if_pos hr, if_pos (by omega)]
            rw [show 40 * p + a + (40 * s + j - (40 * s + d)) = 40 * p + (a + (j - d)) by omega]
            exact w3 _ (by omega)
          · rw [if_neg hr, if_neg (by omega)]; exact u3 j hj
        · rw [if_neg (by omega), if_neg e]
    | succ e ih =>
      intro i hi G' k1 k2 k3
      have q9 : (c ≤ i) = False := eq_false (by omega)
      have hi160 : 40 * q + d + i < 160 := by omega
      have hi40 : i < 40 := by omega
      have c1 := k2 i (by omega)
      have ihk := ih (i + 1) (by omega) (gset G' 69 (upd (G' 69) (40 * q + d + i) (G 69 (40 * p + a + i)))) (fun o h1 h2 => by rw [gset_ne h1]; exact k1 o h1 h2) (fun j hj => by rw [gset_ne (by omega)]; exact k2 j hj) (fun j => by
        rw [gset_eq]
        by_cases hj : j = 40 * q + d + i
        · subst hj
          rw [upd_eq, if_pos (by omega), show 40 * q + d + i - (40 * q + d) = i by omega]
        · rw [upd_ne hj, k3]
          by_cases hr : 40 * q + d ≤ j ∧ j < 40 * q + d + i
          · rw [if_pos hr, if_pos (by omega)]
          · rw [if_neg hr, if_neg (by omega)])
      rw [bh197_165]
      simp (config := { maxSteps := 1000000 }) (disch := first | exact am_nl_i | exact am_nl_r | exact am_nl_n | exact am_l0 | exact am_l1 | exact am_l2 | exact am_l3 | assumption | omega) only [wp_ldc, wp_sipush, wp_ldc_w, wp_lconst, wp_iadd, wp_isub, wp_imul, wp_iand, wp_ior, wp_ixor, wp_ishl, wp_ishr, wp_iushr, wp_idiv, wp_irem, wp_ineg, wp_i2b, wp_i2s, wp_i2c, wp_i2l, wp_ladd, wp_lmul, wp_lcmp, wp_dup_i, wp_dup_r, wp_dup2, wp_pop, wp_getfield, wp_putfield, wp_getstatic, wp_iaload, wp_baload, wp_aaload, wp_iastore, wp_arraylength, wp_goto, wp_fall, wp_ieq, wp_ine, wp_ilt, wp_ige, wp_igt, wp_ile, wp_ceq, wp_cne, wp_clt, wp_cge, wp_cgt, wp_cle, wp_sw, wp_ret0, wp_ret1z, wp_ret1o, wp_ret1, wp_ret2, wp_ret3, wp_ret4, wp_ret5, wp_return, wp_min, wp_max, wp_abs, am_ex, gset_eq, gset_ne, upd_eq, upd_ne, gset_gset, am_ci_1, am_ci_6, am_toList_some, am_toList_none, true_implies, false_implies, and_self, and_true, true_and, not_true_eq_false, not_false_eq_true, imp_self, implies_true, Classical.not_not, if_true, if_false, false_and, and_false, or_false, false_or, true_or, or_true, Nat.reduceAdd, Nat.reduceMul, Nat.reduceSub, Nat.reduceLT, Nat.reduceLeDiff, Nat.reduceEqDiff, Nat.reduceBneDiff, Nat.add_zero, Nat.zero_add, reduceCtorEq, wil0, wal0, wis0, wic0, wil1, wal1, wis1, wic1, wil2, wll2, wal2, wis2, was2, wls2, wic2, wil3, wis3, wic3, wic3m, wic3s, wil4, wis4, wic4, wil5, wis5, wic5, wic5m, wil6, wll6, wal6, wis6, was6, wls6, wic6, wil7, wal7, wis7, was7, wic7, wil8, wis8, wic8, wil9, wis9, wic9, wil10, wis10, wic10, am_nI_inj, am_nI_lt, am_nI_le, nI_add, pk_mul, am_nI_sub, am_add_m1, am_gfs, am_pfs, am_alds, am_asts, am_lens, am_B197_165, bn197_165, q9, c1]
      exact ihk
  have key1 : ∀ e i : Nat, i + e = c → ∀ G' : GG, (∀ o, ¬ o = 70 → G' o = G o) → (∀ j, j < i → G' 70 j = G 69 (40 * p + a + j)) → WP X 197 (am_blk 197 128) [some (.ref 58), some (.int (nI p)), some (.int (nI a)), some (.int (nI q)), some (.int (nI d)), some (.int (nI c)), some (.int (nI i))] [] G' Q := by
    intro e
    induction e with
    | zero =>
      intro i hi G' k1 k2
      obtain rfl : i = c := by omega
      have k2' := key2 i 0 (by omega) G' (fun o h1 h2 => k1 o h2) k2 (fun j => by rw [if_neg (by omega), k1 69 (by omega)])
      rw [bh197_128]
      simp (config := { maxSteps := 1000000 }) (disch := first | exact am_nl_i | exact am_nl_r | exact am_nl_n | exact am_l0 | exact am_l1 | exact am_l2 | exact am_l3 | assumption | omega) only [wp_ldc, wp_sipush, wp_ldc_w, wp_lconst, wp_iadd, wp_isub, wp_imul, wp_iand, wp_ior, wp_ixor, wp_ishl, wp_ishr, wp_iushr, wp_idiv, wp_irem, wp_ineg, wp_i2b, wp_i2s, wp_i2c, wp_i2l, wp_ladd, wp_lmul, wp_lcmp, wp_dup_i, wp_dup_r, wp_dup2, wp_pop, wp_getfield, wp_putfield, wp_getstatic, wp_iaload, wp_baload, wp_aaload, wp_iastore, wp_arraylength, wp_goto, wp_fall, wp_ieq, wp_ine, wp_ilt, wp_ige, wp_igt, wp_ile, wp_ceq, wp_cne, wp_clt, wp_cge, wp_cgt, wp_cle, wp_sw, wp_ret0, wp_ret1z, wp_ret1o, wp_ret1, wp_ret2, wp_ret3, wp_ret4, wp_ret5, wp_return, wp_min, wp_max, wp_abs, am_ex, gset_eq, gset_ne, upd_eq, upd_ne, gset_gset, am_ci_1, am_ci_6, am_toList_some, am_toList_none, true_implies, false_implies, and_self, and_true, true_and, not_true_eq_false, not_false_eq_true, imp_self, implies_true, Classical.not_not, if_true, if_false, false_and, and_false, or_false, false_or, true_or, or_true, Nat.reduceAdd, Nat.reduceMul, Nat.reduceSub, Nat.reduceLT, Nat.reduceLeDiff, Nat.reduceEqDiff, Nat.reduceBneDiff, Nat.add_zero, Nat.zero_add, reduceCtorEq, wil0, wal0, wis0, wic0, wil1, wal1, wis1, wic1, wil2, wll2, wal2, wis2, was2, wls2, wic2, wil3, wis3, wic3, wic3m, wic3s, wil4, wis4, wic4, wil5, wis5, wic5, wic5m, wil6, wll6, wal6, wis6, was6, wls6, wic6, wil7, wal7, wis7, was7, wic7, wil8, wis8, wic8, wil9, wis9, wic9, wil10, wis10, wic10, am_nI_inj, am_nI_lt, am_nI_le, nI_add, pk_mul, am_nI_sub, am_add_m1, am_gfs, am_pfs, am_alds, am_asts, am_lens, bk197_162, am_B197_128, am_B197_162, bn197_165, Nat.le_refl]
      exact k2'
    | succ e ih =>
      intro i hi G' k1 k2
      have q9 : (c ≤ i) = False := eq_false (by omega)
      have hi160 : 40 * p + a + i < 160 := by omega
      have hi40 : i < 40 := by omega
      have c1 : G' 69 (40 * p + a + i) = G 69 (40 * p + a + i) := by rw [k1 69 (by omega)]
      have ihk := ih (i + 1) (by omega) (gset G' 70 (upd (G' 70) i (G 69 (40 * p + a + i)))) (fun o h1 => by rw [gset_ne h1]; exact k1 o h1) (fun j hj => by
        rw [gset_eq]
        by_cases hji : j = i
        · subst hji; rw [upd_eq]
        · rw [upd_ne hji]; exact k2 j (by omega))
      rw [bh197_128]
      simp (config := { maxSteps := 1000000 }) (disch := first | exact am_nl_i | exact am_nl_r | exact am_nl_n | exact am_l0 | exact am_l1 | exact am_l2 | exact am_l3 | assumption | omega) only [wp_ldc, wp_sipush, wp_ldc_w, wp_lconst, wp_iadd, wp_isub, wp_imul, wp_iand, wp_ior, wp_ixor, wp_ishl, wp_ishr, wp_iushr, wp_idiv, wp_irem, wp_ineg, wp_i2b, wp_i2s, wp_i2c, wp_i2l, wp_ladd, wp_lmul, wp_lcmp, wp_dup_i, wp_dup_r, wp_dup2, wp_pop, wp_getfield, wp_putfield, wp_getstatic, wp_iaload, wp_baload, wp_aaload, wp_iastore, wp_arraylength, wp_goto, wp_fall, wp_ieq, wp_ine, wp_ilt, wp_ige, wp_igt, wp_ile, wp_ceq, wp_cne, wp_clt, wp_cge, wp_cgt, wp_cle, wp_sw, wp_ret0, wp_ret1z, wp_ret1o, wp_ret1, wp_ret2, wp_ret3, wp_ret4, wp_ret5, wp_return, wp_min, wp_max, wp_abs, am_ex, gset_eq, gset_ne, upd_eq, upd_ne, gset_gset, am_ci_1, am_ci_6, am_toList_some, am_toList_none, true_implies, false_implies, and_self, and_true, true_and, not_true_eq_false, not_false_eq_true, imp_self, implies_true, Classical.not_not, if_true, if_false, false_and, and_false, or_false, false_or, true_or, or_true, Nat.reduceAdd, Nat.reduceMul, Nat.reduceSub, Nat.reduceLT, Nat.reduceLeDiff, Nat.reduceEqDiff, Nat.reduceBneDiff, Nat.add_zero, Nat.zero_add, reduceCtorEq, wil0, wal0, wis0, wic0, wil1, wal1, wis1, wic1, wil2, wll2, wal2, wis2, was2, wls2, wic2, wil3, wis3, wic3, wic3m, wic3s, wil4, wis4, wic4, wil5, wis5, wic5, wic5m, wil6, wll6, wal6, wis6, was6, wls6, wic6, wil7, wal7, wis7, was7, wic7, wil8, wis8, wic8, wil9, wis9, wic9, wil10, wis10, wic10, am_nI_inj, am_nI_lt, am_nI_le, nI_add, pk_mul, am_nI_sub, am_add_m1, am_gfs, am_pfs, am_alds, am_asts, am_lens, am_B197_128, bn197_128, q9, c1]
      exact ihk
  have k0 := key1 c 0 (by omega) G (fun _ _ => rfl) (fun j hj => absurd hj (Nat.not_lt_zero j))
  simp (config := { maxSteps := 1000000 }) (disch := first | exact am_nl_i | exact am_nl_r | exact am_nl_n | exact am_l0 | exact am_l1 | exact am_l2 | exact am_l3 | assumption | omega) only [wp_ldc, wp_sipush, wp_ldc_w, wp_lconst, wp_iadd, wp_isub, wp_imul, wp_iand, wp_ior, wp_ixor, wp_ishl, wp_ishr, wp_iushr, wp_idiv, wp_irem, wp_ineg, wp_i2b, wp_i2s, wp_i2c, wp_i2l, wp_ladd, wp_lmul, wp_lcmp, wp_dup_i, wp_dup_r, wp_dup2, wp_pop, wp_getfield, wp_putfield, wp_getstatic, wp_iaload, wp_baload, wp_aaload, wp_iastore, wp_arraylength, wp_goto, wp_fall, wp_ieq, wp_ine, wp_ilt, wp_ige, wp_igt, wp_ile, wp_ceq, wp_cne, wp_clt, wp_cge, wp_cgt, wp_cle, wp_sw, wp_ret0, wp_ret1z, wp_ret1o, wp_ret1, wp_ret2, wp_ret3, wp_ret4, wp_ret5, wp_return, wp_min, wp_max, wp_abs, am_ex, gset_eq, gset_ne, upd_eq, upd_ne, gset_gset, am_ci_1, am_ci_6, am_toList_some, am_toList_none, true_implies, false_implies, and_self, and_true, true_and, not_true_eq_false, not_false_eq_true, imp_self, implies_true, Classical.not_not, if_true, if_false, false_and, and_false, or_false, false_or, true_or, or_true, Nat.reduceAdd, Nat.reduceMul, Nat.reduceSub, Nat.reduceLT, Nat.reduceLeDiff, Nat.reduceEqDiff, Nat.reduceBneDiff, Nat.add_zero, Nat.zero_add, reduceCtorEq, wil0, wal0, wis0, wic0, wil1, wal1, wis1, wic1, wil2, wll2, wal2, wis2, was2, wls2, wic2, wil3, wis3, wic3, wic3m, wic3s, wil4, wis4, wic4, wil5, wis5, wic5, wic5m, wil6, wll6, wal6, wis6, was6, wls6, wic6, wil7, wal7, wis7, was7, wic7, wil8, wis8, wic8, wil9, wis9, wic9, wil10, wis10, wic10, am_nI_inj, am_nI_lt, am_nI_le, nI_add, pk_mul, am_nI_sub, am_add_m1, am_gfs, am_pfs, am_alds, am_asts, am_lens, bk197_69, bk197_125, am_B197_69, am_B197_125, bn197_128, r1, r2, r3, w2, u2, g1, g4]
  exact k0
theorem E_X5_lacks {X : AmX} {G : GG} (p w : Nat) (hp : p < 4) (hw : G 67 p = nI w) (hw2 : w ≤ 32) : Ev X 133 [.ref 58, .int (nI p)] G (some (.int (if w = 0 then fc 5 else nI 0))) (G) := by
  refine Ev_of ?_
  show WP X 133 (am_blk 133 0) [some (.ref 58), some (.int (nI p))] [] G _
  have h1 : inR (nI p) (nI 0) (nI 3) = true := by rw [inR_nI (by omega) (by omega) (by omega)]; exact decide_eq_true (by omega)
  have e2 : (nI 1 = nI 0) = False := eq_false (by decide)
  by_cases h0 : w = 0
  · rw [if_pos h0]
    have q := eq_true h0
    simp (config := { maxSteps := 1000000 }) (disch := first | exact am_nl_i | exact am_nl_r | exact am_nl_n | exact am_l0 | exact am_l1 | exact am_l2 | exact am_l3 | assumption | omega) only [wp_ldc, wp_sipush, wp_ldc_w, wp_lconst, wp_iadd, wp_isub, wp_imul, wp_iand, wp_ior, wp_ixor, wp_ishl, wp_ishr, wp_iushr, wp_idiv, wp_irem, wp_ineg, wp_i2b, wp_i2s, wp_i2c, wp_i2l, wp_ladd, wp_lmul, wp_lcmp, wp_dup_i, wp_dup_r, wp_dup2, wp_pop, wp_getfield, wp_putfield, wp_getstatic, wp_iaload, wp_baload, wp_aaload, wp_iastore, wp_arraylength, wp_goto, wp_fall, wp_ieq, wp_ine, wp_ilt, wp_ige, wp_igt, wp_ile, wp_ceq, wp_cne, wp_clt, wp_cge, wp_cgt, wp_cle, wp_sw, wp_ret0, wp_ret1z, wp_ret1o, wp_ret1, wp_ret2, wp_ret3, wp_ret4, wp_ret5, wp_return, wp_min, wp_max, wp_abs, am_ex, gset_eq, gset_ne, upd_eq, upd_ne, gset_gset, am_ci_1, am_ci_6, am_toList_some, am_toList_none, true_implies, false_implies, and_self, and_true, true_and, not_true_eq_false, not_false_eq_true, imp_self, implies_true, Classical.not_not, if_true, if_false, false_and, and_false, or_false, false_or, true_or, or_true, Nat.reduceAdd, Nat.reduceMul, Nat.reduceSub, Nat.reduceLT, Nat.reduceLeDiff, Nat.reduceEqDiff, Nat.reduceBneDiff, Nat.add_zero, Nat.zero_add, reduceCtorEq, wil0, wal0, wis0, wic0, wil1, wal1, wis1, wic1, wil2, wll2, wal2, wis2, was2, wls2, wic2, wil3, wis3, wic3, wic3m, wic3s, wil4, wis4, wic4, wil5, wis5, wic5, wic5m, wil6, wll6, wal6, wis6, was6, wls6, wic6, wil7, wal7, wis7, was7, wic7, wil8, wis8, wic8, wil9, wis9, wic9, wil10, wis10, wic10, am_nI_inj, am_nI_lt, am_nI_le, nI_add, pk_mul, am_nI_sub, am_add_m1, am_gfs, am_pfs, am_alds, am_asts, am_lens, bs133, am_B133_0, am_B133_12, am_B133_26, am_B133_27, C_X5_isSheet, h1, bI_t, e2, hw, q, fcs]
  · rw [if_neg h0]
    have q := eq_false h0
    simp (config := { maxSteps := 1000000 }) (disch := first | exact am_nl_i | exact am_nl_r | exact am_nl_n | exact am_l0 | exact am_l1 | exact am_l2 | exact am_l3 | assumption | omega) only [wp_ldc, wp_sipush, wp_ldc_w, wp_lconst, wp_iadd, wp_isub, wp_imul, wp_iand, wp_ior, wp_ixor, wp_ishl, wp_ishr, wp_iushr, wp_idiv, wp_irem, wp_ineg, wp_i2b, wp_i2s, wp_i2c, wp_i2l, wp_ladd, wp_lmul, wp_lcmp, wp_dup_i, wp_dup_r, wp_dup2, wp_pop, wp_getfield, wp_putfield, wp_getstatic, wp_iaload, wp_baload, wp_aaload, wp_iastore, wp_arraylength, wp_goto, wp_fall, wp_ieq, wp_ine, wp_ilt, wp_ige, wp_igt, wp_ile, wp_ceq, wp_cne, wp_clt, wp_cge, wp_cgt, wp_cle, wp_sw, wp_ret0, wp_ret1z, wp_ret1o, wp_ret1, wp_ret2, wp_ret3, wp_ret4, wp_ret5, wp_return, wp_min, wp_max, wp_abs, am_ex, gset_eq, gset_ne, upd_eq, upd_ne, gset_gset, am_ci_1, am_ci_6, am_toList_some, am_toList_none, true_implies, false_implies, and_self, and_true, true_and, not_true_eq_false, not_false_eq_true, imp_self, implies_true, Classical.not_not, if_true, if_false, false_and, and_false, or_false, false_or, true_or, or_true, Nat.reduceAdd, Nat.reduceMul, Nat.reduceSub, Nat.reduceLT, Nat.reduceLeDiff, Nat.reduceEqDiff, Nat.reduceBneDiff, Nat.add_zero, Nat.zero_add, reduceCtorEq, wil0, wal0, wis0, wic0, wil1, wal1, wis1, wic1, wil2, wll2, wal2, wis2, was2, wls2, wic2, wil3, wis3, wic3, wic3m, wic3s, wil4, wis4, wic4, wil5, wis5, wic5, wic5m, wil6, wll6, wal6, wis6, was6, wls6, wic6, wil7, wal7, wis7, was7, wic7, wil8, wis8, wic8, wil9, wis9, wic9, wil10, wis10, wic10, am_nI_inj, am_nI_lt, am_nI_le, nI_add, pk_mul, am_nI_sub, am_add_m1, am_gfs, am_pfs, am_alds, am_asts, am_lens, bs133, am_B133_0, am_B133_12, am_B133_26, am_B133_27, C_X5_isSheet, h1, bI_t, e2, hw, q]
theorem C_X5_lacks {X : AmX} {G : GG} {k : Nat} {r : List Instr} {lv : LV} {st : List Value} {Q : Option Value → GG → Prop} {p w : Nat} (hp : p < 4) (hw : G 67 p = nI w) (hw2 : w ≤ 32) (hl : st.length ≤ 4) : WP X k (.invokeinterface 133 2 :: r) lv ((.int (nI p)) :: (.ref 58) :: st) G Q ↔ WP X k r lv ((.int (if w = 0 then fc 5 else nI 0)) :: st) (G) Q := WP_ev (E_X5_lacks p w hp hw hw2) (by decide) rfl rfl hl (rfl)
theorem E_X5_lacksO {X : AmX} {G : GG} (v : Int32) (hr : inR v (nI 0) (nI 3) = false) : Ev X 133 [.ref 58, .int v] G (some (.int (fc 0))) (G) := by
  refine Ev_of ?_
  show WP X 133 (am_blk 133 0) [some (.ref 58), some (.int v)] [] G _
  simp (config := { maxSteps := 1000000 }) (disch := first | exact am_nl_i | exact am_nl_r | exact am_nl_n | exact am_l0 | exact am_l1 | exact am_l2 | exact am_l3 | assumption | omega) only [wp_ldc, wp_sipush, wp_ldc_w, wp_lconst, wp_iadd, wp_isub, wp_imul, wp_iand, wp_ior, wp_ixor, wp_ishl, wp_ishr, wp_iushr, wp_idiv, wp_irem, wp_ineg, wp_i2b, wp_i2s, wp_i2c, wp_i2l, wp_ladd, wp_lmul, wp_lcmp, wp_dup_i, wp_dup_r, wp_dup2, wp_pop, wp_getfield, wp_putfield, wp_getstatic, wp_iaload, wp_baload, wp_aaload, wp_iastore, wp_arraylength, wp_goto, wp_fall, wp_ieq, wp_ine, wp_ilt, wp_ige, wp_igt, wp_ile, wp_ceq, wp_cne, wp_clt, wp_cge, wp_cgt, wp_cle, wp_sw, wp_ret0, wp_ret1z, wp_ret1o, wp_ret1, wp_ret2, wp_ret3, wp_ret4, wp_ret5, wp_return, wp_min, wp_max, wp_abs, am_ex, gset_eq, gset_ne, upd_eq, upd_ne, gset_gset, am_ci_1, am_ci_6, am_toList_some, am_toList_none, true_implies, false_implies, and_self, and_true, true_and, not_true_eq_false, not_false_eq_true, imp_self, implies_true, Classical.not_not, if_true, if_false, false_and, and_false, or_false, false_or, true_or, or_true, Nat.reduceAdd, Nat.reduceMul, Nat.reduceSub, Nat.reduceLT, Nat.reduceLeDiff, Nat.reduceEqDiff, Nat.reduceBneDiff, Nat.add_zero, Nat.zero_add, reduceCtorEq, wil0, wal0, wis0, wic0, wil1, wal1, wis1, wic1, wil2, wll2, wal2, wis2, was2, wls2, wic2, wil3, wis3, wic3, wic3m, wic3s, wil4, wis4, wic4, wil5, wis5, wic5, wic5m, wil6, wll6, wal6, wis6, was6, wls6, wic6, wil7, wal7, wis7, was7, wic7, wil8, wis8, wic8, wil9, wis9, wic9, wil10, wis10, wic10, am_nI_inj, am_nI_lt, am_nI_le, nI_add, pk_mul, am_nI_sub, am_add_m1, am_gfs, am_pfs, am_alds, am_asts, am_lens, bs133, am_B133_0, am_B133_12, am_B133_26, am_B133_27, C_X5_isSheet, hr, bI_f, fcs]
theorem C_X5_lacksO {X : AmX} {G : GG} {k : Nat} {r : List Instr} {lv : LV} {st : List Value} {Q : Option Value → GG → Prop} {v : Int32} (hr : inR v (nI 0) (nI 3) = false) (hl : st.length ≤ 4) : WP X k (.invokeinterface 133 2 :: r) lv ((.int v) :: (.ref 58) :: st) G Q ↔ WP X k r lv ((.int (fc 0)) :: st) (G) Q := WP_ev (E_X5_lacksO v hr) (by decide) rfl rfl hl (rfl)
theorem fc_ne : (fc 0 = nI 0) = False ∧ (fc 5 = nI 0) = False := ⟨eq_false (by decide), eq_false (by decide)⟩
theorem lodT_s {T : TT} {f : Nat → Int32} {k : Nat} : updT (lodT T f k) 0 k (aN (f k)) = lodT T f (k + 1) := by
  funext c i
  unfold updT lodT
  by_cases hc : c = 0
  · by_cases hi : i = k
    · subst hi; simp [hc]
    · simp only [hc, hi, true_and, if_false, show i < k + 1 ↔ i < k by omega]
  · simp only [hc, false_and, if_false]
theorem lodT_0 {T : TT} {f : Nat → Int32} : lodT T f 0 = T := by
  funext c i
  exact if_neg (fun z => absurd z.2 (Nat.not_lt_zero i))
theorem MT_load {X : AmX} {S : SS} {G : GG} (h : MSt S G) (hv : SV S) (a1 : Int32) : MW X 199 [.ref 58, .int a1] G (sp_load S a1) := by
  have hE := h.1
  have f0 := hE.2.1
  have hv8 := hv.1.1.1
  have hm := MS_MR h hv
  unfold MW sp_load
  have e2 : (nI 1 = nI 0) = False := eq_false (by decide)
  show WP X 199 (am_blk 199 0) [some (.ref 58), some (.int a1), none] [] G _
  by_cases h1 : inR a1 (nI 0) (nI 3) = true
  rotate_left
  · rw [if_neg h1]
    rw [Bool.not_eq_true] at h1
    have hL := fun (k : Nat) (r : List Instr) (lv : LV) (st : List Value) (Q : Option Value → GG → Prop) (hl : st.length ≤ 4) => C_X5_lacksO (X := X) (k := k) (st := st) (r := r) (lv := lv) (Q := Q) (G := G) (v := a1) h1 hl
    simp (config := { maxSteps := 1000000 }) (disch := first | exact am_nl_i | exact am_nl_r | exact am_nl_n | exact am_l0 | exact am_l1 | exact am_l2 | exact am_l3 | assumption | omega) only [wp_ldc, wp_sipush, wp_ldc_w, wp_lconst, wp_iadd, wp_isub, wp_imul, wp_iand, wp_ior, wp_ixor, wp_ishl, wp_ishr, wp_iushr, wp_idiv, wp_irem, wp_ineg, wp_i2b, wp_i2s, wp_i2c, wp_i2l, wp_ladd, wp_lmul, wp_lcmp, wp_dup_i, wp_dup_r, wp_dup2, wp_pop, wp_getfield, wp_putfield, wp_getstatic, wp_iaload, wp_baload, wp_aaload, wp_iastore, wp_arraylength, wp_goto, wp_fall, wp_ieq, wp_ine, wp_ilt, wp_ige, wp_igt, wp_ile, wp_ceq, wp_cne, wp_clt, wp_cge, wp_cgt, wp_cle, wp_sw, wp_ret0, wp_ret1z, wp_ret1o, wp_ret1, wp_ret2, wp_ret3, wp_ret4, wp_ret5, wp_return, wp_min, wp_max, wp_abs, am_ex, gset_eq, gset_ne, upd_eq, upd_ne, gset_gset, am_ci_1, am_ci_6, am_toList_some, am_toList_none, true_implies, false_implies, and_self, and_true, true_and, not_true_eq_false, not_false_eq_true, imp_self, implies_true, Classical.not_not, if_true, if_false, false_and, and_false, or_false, false_or, true_or, or_true, Nat.reduceAdd, Nat.reduceMul, Nat.reduceSub, Nat.reduceLT, Nat.reduceLeDiff, Nat.reduceEqDiff, Nat.reduceBneDiff, Nat.add_zero, Nat.zero_add, reduceCtorEq, wil0, wal0, wis0, wic0, wil1, wal1, wis1, wic1, wil2, wll2, wal2, wis2, was2, wls2, wic2, wil3, wis3, wic3, wic3m, wic3s, wil4, wis4, wic4, wil5, wis5, wic5, wic5m, wil6, wll6, wal6, wis6, was6, wls6, wic6, wil7, wal7, wis7, was7, wic7, wil8, wis8, wic8, wil9, wis9, wic9, wil10, wis10, wic10, am_nI_inj, am_nI_lt, am_nI_le, nI_add, pk_mul, am_nI_sub, am_add_m1, am_gfs, am_pfs, am_alds, am_asts, am_lens, bk199_0, am_B199_0, hL, fc_ne, C_X5_finding]
    first | exact ⟨rfl, MSt_fnd h (by omega), mfnd_frame⟩ | exact ⟨MSt_fnd h (by omega), mfnd_frame⟩
  rw [if_pos h1]
  obtain ⟨p, hp, rfl, h1'⟩ := rng_of (by omega) h1
  rw [aN_nI (show p < 2 ^ 31 by omega)]
  have hp4 : p < 4 := by omega
  obtain ⟨w1, w2, w3, w4, w5⟩ := ms_sh h hv hp4
  have hL := fun (k : Nat) (r : List Instr) (lv : LV) (st : List Value) (Q : Option Value → GG → Prop) (hl : st.length ≤ 4) => C_X5_lacks (X := X) (k := k) (st := st) (r := r) (lv := lv) (Q := Q) (G := G) (p := p) (w := S.2.2.2.1.1 p) hp4 w1 w4 hl
  by_cases h2 : S.2.2.2.1.1 p = 0
  · rw [if_pos h2]
    rw [if_pos h2] at hL
    simp (config := { maxSteps := 1000000 }) (disch := first | exact am_nl_i | exact am_nl_r | exact am_nl_n | exact am_l0 | exact am_l1 | exact am_l2 | exact am_l3 | assumption | omega) only [wp_ldc, wp_sipush, wp_ldc_w, wp_lconst, wp_iadd, wp_isub, wp_imul, wp_iand, wp_ior, wp_ixor, wp_ishl, wp_ishr, wp_iushr, wp_idiv, wp_irem, wp_ineg, wp_i2b, wp_i2s, wp_i2c, wp_i2l, wp_ladd, wp_lmul, wp_lcmp, wp_dup_i, wp_dup_r, wp_dup2, wp_pop, wp_getfield, wp_putfield, wp_getstatic, wp_iaload, wp_baload, wp_aaload, wp_iastore, wp_arraylength, wp_goto, wp_fall, wp_ieq, wp_ine, wp_ilt, wp_ige, wp_igt, wp_ile, wp_ceq, wp_cne, wp_clt, wp_cge, wp_cgt, wp_cle, wp_sw, wp_ret0, wp_ret1z, wp_ret1o, wp_ret1, wp_ret2, wp_ret3, wp_ret4, wp_ret5, wp_return, wp_min, wp_max, wp_abs, am_ex, gset_eq, gset_ne, upd_eq, upd_ne, gset_gset, am_ci_1, am_ci_6, am_toList_some, am_toList_none, true_implies, false_implies, and_self, and_true, true_and, not_true_eq_false, not_false_eq_true, imp_self, implies_true, Classical.not_not, if_true, if_false, false_and, and_false, or_false, false_or, true_or, or_true, Nat.reduceAdd, Nat.reduceMul, Nat.reduceSub, Nat.reduceLT, Nat.reduceLeDiff, Nat.reduceEqDiff, Nat.reduceBneDiff, Nat.add_zero, Nat.zero_add, reduceCtorEq, wil0, wal0, wis0, wic0, wil1, wal1, wis1, wic1, wil2, wll2, wal2, wis2, was2, wls2, wic2, wil3, wis3, wic3, wic3m, wic3s, wil4, wis4, wic4, wil5, wis5, wic5, wic5m, wil6, wll6, wal6, wis6, was6, wls6, wic6, wil7, wal7, wis7, was7, wic7, wil8, wis8, wic8, wil9, wis9, wic9, wil10, wis10, wic10, am_nI_inj, am_nI_lt, am_nI_le, nI_add, pk_mul, am_nI_sub, am_add_m1, am_gfs, am_pfs, am_alds, am_asts, am_lens, bk199_0, am_B199_0, hL, fc_ne, C_X5_finding]
    first | exact ⟨rfl, MSt_fnd h (by omega), mfnd_frame⟩ | exact ⟨MSt_fnd h (by omega), mfnd_frame⟩
  rw [if_neg h2]
  rw [if_neg h2] at hL
  generalize hm' : S.2.2.2.1.2.1 p = m at *
  generalize hQ : (fun (v : Option Value) (G1 : GG) => v = some (.int (nI (lodN S p), sTown S (S.1.1, lodT S.1.2.1 (S.2.2.2.1.2.2 p) (lodN S p), S.1.2.2)).1) ∧ MSt (nI (lodN S p), sTown S (S.1.1, lodT S.1.2.1 (S.2.2.2.1.2.2 p) (lodN S p), S.1.2.2)).2 G1 ∧ ∀ o, o < 58 → G1 o = G o) = Q
  have hend : ∀ (i : Nat) (G' : GG), i ≤ 40 → lodN S p = i → MSt (sTown S (S.1.1, lodT S.1.2.1 (S.2.2.2.1.2.2 p) i, S.1.2.2)) G' → (∀ o, o < 58 → G' o = G o) → WP X 199 (am_blk 199 (Int.toNat 80)) [some (.ref 58), some (.int (nI p)), some (.int (nI i))] [] G' Q := by
    intro i G' hi hl hc hf
    simp (config := { maxSteps := 1000000 }) (disch := first | exact am_nl_i | exact am_nl_r | exact am_nl_n | exact am_l0 | exact am_l1 | exact am_l2 | exact am_l3 | assumption | omega) only [wp_ldc, wp_sipush, wp_ldc_w, wp_lconst, wp_iadd, wp_isub, wp_imul, wp_iand, wp_ior, wp_ixor, wp_ishl, wp_ishr, wp_iushr, wp_idiv, wp_irem, wp_ineg, wp_i2b, wp_i2s, wp_i2c, wp_i2l, wp_ladd, wp_lmul, wp_lcmp, wp_dup_i, wp_dup_r, wp_dup2, wp_pop, wp_getfield, wp_putfield, wp_getstatic, wp_iaload, wp_baload, wp_aaload, wp_iastore, wp_arraylength, wp_goto, wp_fall, wp_ieq, wp_ine, wp_ilt, wp_ige, wp_igt, wp_ile, wp_ceq, wp_cne, wp_clt, wp_cge, wp_cgt, wp_cle, wp_sw, wp_ret0, wp_ret1z, wp_ret1o, wp_ret1, wp_ret2, wp_ret3, wp_ret4, wp_ret5, wp_return, wp_min, wp_max, wp_abs, am_ex, gset_eq, gset_ne, upd_eq, upd_ne, gset_gset, am_ci_1, am_ci_6, am_toList_some, am_toList_none, true_implies, false_implies, and_self, and_true, true_and, not_true_eq_false, not_false_eq_true, imp_self, implies_true, Classical.not_not, if_true, if_false, false_and, and_false, or_false, false_or, true_or, or_true, Nat.reduceAdd, Nat.reduceMul, Nat.reduceSub, Nat.reduceLT, Nat.reduceLeDiff, Nat.reduceEqDiff, Nat.reduceBneDiff, Nat.add_zero, Nat.zero_add, reduceCtorEq, wil0, wal0, wis0, wic0, wil1, wal1, wis1, wic1, wil2, wll2, wal2, wis2, was2, wls2, wic2, wil3, wis3, wic3, wic3m, wic3s, wil4, wis4, wic4, wil5, wis5, wic5, wic5m, wil6, wll6, wal6, wis6, was6, wls6, wic6, wil7, wal7, wis7, was7, wic7, wil8, wis8, wic8, wil9, wis9, wic9, wil10, wis10, wic10, am_nI_inj, am_nI_lt, am_nI_le, nI_add, pk_mul, am_nI_sub, am_add_m1, am_gfs, am_pfs, am_alds, am_asts, am_lens, bk199_80, am_B199_80]
    rw [← hQ, hl]
    exact ⟨rfl, hc, hf⟩
  have key : ∀ d i : Nat, i + d = m → srchN (lodB S p) m 0 = srchN (lodB S p) d i → ∀ G' : GG, MSt (sTown S (S.1.1, lodT S.1.2.1 (S.2.2.2.1.2.2 p) i, S.1.2.2)) G' → (∀ o, ¬ o = 59 → G' o = G o) → WP X 199 (am_blk 199 20) [some (.ref 58), some (.int (nI p)), some (.int (nI i))] [] G' Q := by
    intro d
    induction d with
    | zero =>
      intro i hi hs G' hc hf
      obtain rfl : i = m := by omega
      have hl : lodN S p = i := by
        unfold lodN
        rw [hm', hs]
        rfl
      have c1 : G' 68 p = nI i := by rw [hf 68 (by omega)]; exact w2
      have hen := hend i G' w5 hl hc (fun o ho => hf o (by omega))
      rw [bh199_20]
      simp (config := { maxSteps := 1000000 }) (disch := first | exact am_nl_i | exact am_nl_r | exact am_nl_n | exact am_l0 | exact am_l1 | exact am_l2 | exact am_l3 | assumption | omega) only [wp_ldc, wp_sipush, wp_ldc_w, wp_lconst, wp_iadd, wp_isub, wp_imul, wp_iand, wp_ior, wp_ixor, wp_ishl, wp_ishr, wp_iushr, wp_idiv, wp_irem, wp_ineg, wp_i2b, wp_i2s, wp_i2c, wp_i2l, wp_ladd, wp_lmul, wp_lcmp, wp_dup_i, wp_dup_r, wp_dup2, wp_pop, wp_getfield, wp_putfield, wp_getstatic, wp_iaload, wp_baload, wp_aaload, wp_iastore, wp_arraylength, wp_goto, wp_fall, wp_ieq, wp_ine, wp_ilt, wp_ige, wp_igt, wp_ile, wp_ceq, wp_cne, wp_clt, wp_cge, wp_cgt, wp_cle, wp_sw, wp_ret0, wp_ret1z, wp_ret1o, wp_ret1, wp_ret2, wp_ret3, wp_ret4, wp_ret5, wp_return, wp_min, wp_max, wp_abs, am_ex, gset_eq, gset_ne, upd_eq, upd_ne, gset_gset, am_ci_1, am_ci_6, am_toList_some, am_toList_none, true_implies, false_implies, and_self, and_true, true_and, not_true_eq_false, not_false_eq_true, imp_self, implies_true, Classical.not_not, if_true, if_false, false_and, and_false, or_false, false_or, true_or, or_true, Nat.reduceAdd, Nat.reduceMul, Nat.reduceSub, Nat.reduceLT, Nat.reduceLeDiff, Nat.reduceEqDiff, Nat.reduceBneDiff, Nat.add_zero, Nat.zero_add, reduceCtorEq, wil0, wal0, wis0, wic0, wil1, wal1, wis1, wic1, wil2, wll2, wal2, wis2, was2, wls2, wic2, wil3, wis3, wic3, wic3m, wic3s, wil4, wis4, wic4, wil5, wis5, wic5, wic5m, wil6, wll6, wal6, wis6, was6, wls6, wic6, wil7, wal7, wis7, was7, wic7, wil8, wis8, wic8, wil9, wis9, wic9, wil10, wis10, wic10, am_nI_inj, am_nI_lt, am_nI_le, nI_add, pk_mul, am_nI_sub, am_add_m1, am_gfs, am_pfs, am_alds, am_asts, am_lens, am_B199_20, c1, Nat.le_refl]
      exact hen
    | succ d ih =>
      intro i hi hs G' hc hf
      have q1 : (m ≤ i) = False := eq_false (by omega)
      have hi40 : i < 40 := by omega
      have hi160 : 40 * p + i < 160 := by omega
      have c1 : G' 68 p = nI m := by rw [hf 68 (by omega)]; exact w2
      have c2 : G' 69 (40 * p + i) = S.2.2.2.1.2.2 p i := by rw [hf 69 (by omega)]; exact w3 i hi40
      have hdef : lodB S p i = !(decide (i < 8) && inR (S.2.2.2.1.2.2 p i) (nI 0) (nI 9999)) := rfl
      rw [bh199_20]
      by_cases hi8 : i < 8
      · have q2 : inR (nI i) (nI 0) (nI 7) = true := by rw [inR_nI (by omega) (by omega) (by omega)]; exact decide_eq_true (by omega)
        by_cases hr : inR (S.2.2.2.1.2.2 p i) (nI 0) (nI 9999) = true
        · have hb : ¬ lodB S p i = true := by rw [hdef, hr, decide_eq_true hi8]; decide
          rw [srch_n hb] at hs
          obtain ⟨x, hx, ex, _⟩ := rng_of (by omega) hr
          have hT := MSt_town (S := sTown S (S.1.1, lodT S.1.2.1 (S.2.2.2.1.2.2 p) i, S.1.2.2)) (w := (S.1.1, updT (lodT S.1.2.1 (S.2.2.2.1.2.2 p) i) 0 i (aN (S.2.2.2.1.2.2 p i)), S.1.2.2)) hc (ME_prize (x := aN (S.2.2.2.1.2.2 p i)) hc.1 hv8 hi8) (fun o h1 h2 h3 h4 => gset_ne h1)
          rw [lodT_s] at hT
          have ihk := ih (i + 1) (by omega) hs _ hT (fun o ho => by rw [gset_ne ho]; exact hf o ho)
          have ex2 : nI (aN (S.2.2.2.1.2.2 p i)) = S.2.2.2.1.2.2 p i := by rw [ex, aN_nI (by omega)]
          rw [ex2] at ihk
          simp (config := { maxSteps := 1000000 }) (disch := first | exact am_nl_i | exact am_nl_r | exact am_nl_n | exact am_l0 | exact am_l1 | exact am_l2 | exact am_l3 | assumption | omega) only [wp_ldc, wp_sipush, wp_ldc_w, wp_lconst, wp_iadd, wp_isub, wp_imul, wp_iand, wp_ior, wp_ixor, wp_ishl, wp_ishr, wp_iushr, wp_idiv, wp_irem, wp_ineg, wp_i2b, wp_i2s, wp_i2c, wp_i2l, wp_ladd, wp_lmul, wp_lcmp, wp_dup_i, wp_dup_r, wp_dup2, wp_pop, wp_getfield, wp_putfield, wp_getstatic, wp_iaload, wp_baload, wp_aaload, wp_iastore, wp_arraylength, wp_goto, wp_fall, wp_ieq, wp_ine, wp_ilt, wp_ige, wp_igt, wp_ile, wp_ceq, wp_cne, wp_clt, wp_cge, wp_cgt, wp_cle, wp_sw, wp_ret0, wp_ret1z, wp_ret1o, wp_ret1, wp_ret2, wp_ret3, wp_ret4, wp_ret5, wp_return, wp_min, wp_max, wp_abs, am_ex, gset_eq, gset_ne, upd_eq, upd_ne, gset_gset, am_ci_1, am_ci_6, am_toList_some, am_toList_none, true_implies, false_implies, and_self, and_true, true_and, not_true_eq_false, not_false_eq_true, imp_self, implies_true, Classical.not_not, if_true, if_false, false_and, and_false, or_false, false_or, true_or, or_true, Nat.reduceAdd, Nat.reduceMul, Nat.reduceSub, Nat.reduceLT, Nat.reduceLeDiff, Nat.reduceEqDiff, Nat.reduceBneDiff, Nat.add_zero, Nat.zero_add, reduceCtorEq, wil0, wal0, wis0, wic0, wil1, wal1, wis1, wic1, wil2, wll2, wal2, wis2, was2, wls2, wic2, wil3, wis3, wic3, wic3m, wic3s, wil4, wis4, wic4, wil5, wis5, wic5, wic5m, wil6, wll6, wal6, wis6, was6, wls6, wic6, wil7, wal7, wis7, was7, wic7, wil8, wis8, wic8, wil9, wis9, wic9, wil10, wis10, wic10, am_nI_inj, am_nI_lt, am_nI_le, nI_add, pk_mul, am_nI_sub, am_add_m1, am_gfs, am_pfs, am_alds, am_asts, am_lens, am_B199_20, bn199_20, c1, q1, C_X5_isPlace, q2, bI_t, e2, c2, C_X5_isPrize, hr]
          exact ihk
        · have hb : lodB S p i = true := by
            rw [Bool.not_eq_true] at hr
            rw [hdef, hr, Bool.and_false]; rfl
          rw [srch_1 hb] at hs
          have hl : lodN S p = i := by
            unfold lodN
            rw [hm', hs]
          have hen := hend i G' (by omega) hl hc (fun o ho => hf o (by omega))
          rw [Bool.not_eq_true] at hr
          simp (config := { maxSteps := 1000000 }) (disch := first | exact am_nl_i | exact am_nl_r | exact am_nl_n | exact am_l0 | exact am_l1 | exact am_l2 | exact am_l3 | assumption | omega) only [wp_ldc, wp_sipush, wp_ldc_w, wp_lconst, wp_iadd, wp_isub, wp_imul, wp_iand, wp_ior, wp_ixor, wp_ishl, wp_ishr, wp_iushr, wp_idiv, wp_irem, wp_ineg, wp_i2b, wp_i2s, wp_i2c, wp_i2l, wp_ladd, wp_lmul, wp_lcmp, wp_dup_i, wp_dup_r, wp_dup2, wp_pop, wp_getfield, wp_putfield, wp_getstatic, wp_iaload, wp_baload, wp_aaload, wp_iastore, wp_arraylength, wp_goto, wp_fall, wp_ieq, wp_ine, wp_ilt, wp_ige, wp_igt, wp_ile, wp_ceq, wp_cne, wp_clt, wp_cge, wp_cgt, wp_cle, wp_sw, wp_ret0, wp_ret1z, wp_ret1o, wp_ret1, wp_ret2, wp_ret3, wp_ret4, wp_ret5, wp_return, wp_min, wp_max, wp_abs, am_ex, gset_eq, gset_ne, upd_eq, upd_ne, gset_gset, am_ci_1, am_ci_6, am_toList_some, am_toList_none, true_implies, false_implies, and_self, and_true, true_and, not_true_eq_false, not_false_eq_true, imp_self, implies_true, Classical.not_not, if_true, if_false, false_and, and_false, or_false, false_or, true_or, or_true, Nat.reduceAdd, Nat.reduceMul, Nat.reduceSub, Nat.reduceLT, Nat.reduceLeDiff, Nat.reduceEqDiff, Nat.reduceBneDiff, Nat.add_zero, Nat.zero_add, reduceCtorEq, wil0, wal0, wis0, wic0, wil1, wal1, wis1, wic1, wil2, wll2, wal2, wis2, was2, wls2, wic2, wil3, wis3, wic3, wic3m, wic3s, wil4, wis4, wic4, wil5, wis5, wic5, wic5m, wil6, wll6, wal6, wis6, was6, wls6, wic6, wil7, wal7, wis7, was7, wic7, wil8, wis8, wic8, wil9, wis9, wic9, wil10, wis10, wic10, am_nI_inj, am_nI_lt, am_nI_le, nI_add, pk_mul, am_nI_sub, am_add_m1, am_gfs, am_pfs, am_alds, am_asts, am_lens, am_B199_20, c1, q1, C_X5_isPlace, q2, bI_t, bI_f, e2, c2, C_X5_isPrize, hr]
          exact hen
      · have q2 : inR (nI i) (nI 0) (nI 7) = false := by rw [inR_nI (by omega) (by omega) (by omega)]; exact decide_eq_false (by omega)
        have hb : lodB S p i = true := by rw [hdef, decide_eq_false hi8]; rfl
        rw [srch_1 hb] at hs
        have hl : lodN S p = i := by
          unfold lodN
          rw [hm', hs]
        have hen := hend i G' (by omega) hl hc (fun o ho => hf o (by omega))
        simp (config := { maxSteps := 1000000 }) (disch := first | exact am_nl_i | exact am_nl_r | exact am_nl_n | exact am_l0 | exact am_l1 | exact am_l2 | exact am_l3 | assumption | omega) only [wp_ldc, wp_sipush, wp_ldc_w, wp_lconst, wp_iadd, wp_isub, wp_imul, wp_iand, wp_ior, wp_ixor, wp_ishl, wp_ishr, wp_iushr, wp_idiv, wp_irem, wp_ineg, wp_i2b, wp_i2s, wp_i2c, wp_i2l, wp_ladd, wp_lmul, wp_lcmp, wp_dup_i, wp_dup_r, wp_dup2, wp_pop, wp_getfield, wp_putfield, wp_getstatic, wp_iaload, wp_baload, wp_aaload, wp_iastore, wp_arraylength, wp_goto, wp_fall, wp_ieq, wp_ine, wp_ilt, wp_ige, wp_igt, wp_ile, wp_ceq, wp_cne, wp_clt, wp_cge, wp_cgt, wp_cle, wp_sw, wp_ret0, wp_ret1z, wp_ret1o, wp_ret1, wp_ret2, wp_ret3, wp_ret4, wp_ret5, wp_return, wp_min, wp_max, wp_abs, am_ex, gset_eq, gset_ne, upd_eq, upd_ne, gset_gset, am_ci_1, am_ci_6, am_toList_some, am_toList_none, true_implies, false_implies, and_self, and_true, true_and, not_true_eq_false, not_false_eq_true, imp_self, implies_true, Classical.not_not, if_true, if_false, false_and, and_false, or_false, false_or, true_or, or_true, Nat.reduceAdd, Nat.reduceMul, Nat.reduceSub, Nat.reduceLT, Nat.reduceLeDiff, Nat.reduceEqDiff, Nat.reduceBneDiff, Nat.add_zero, Nat.zero_add, reduceCtorEq, wil0, wal0, wis0, wic0, wil1, wal1, wis1, wic1, wil2, wll2, wal2, wis2, was2, wls2, wic2, wil3, wis3, wic3, wic3m, wic3s, wil4, wis4, wic4, wil5, wis5, wic5, wic5m, wil6, wll6, wal6, wis6, was6, wls6, wic6, wil7, wal7, wis7, was7, wic7, wil8, wis8, wic8, wil9, wis9, wic9, wil10, wis10, wic10, am_nI_inj, am_nI_lt, am_nI_le, nI_add, pk_mul, am_nI_sub, am_add_m1, am_gfs, am_pfs, am_alds, am_asts, am_lens, am_B199_20, c1, q1, C_X5_isPlace, q2, bI_f]
        exact hen
  have k0 := key m 0 (by omega) rfl G (by rw [lodT_0]; exact h) (fun _ _ => rfl)
  simp (config := { maxSteps := 1000000 }) (disch := first | exact am_nl_i | exact am_nl_r | exact am_nl_n | exact am_l0 | exact am_l1 | exact am_l2 | exact am_l3 | assumption | omega) only [wp_ldc, wp_sipush, wp_ldc_w, wp_lconst, wp_iadd, wp_isub, wp_imul, wp_iand, wp_ior, wp_ixor, wp_ishl, wp_ishr, wp_iushr, wp_idiv, wp_irem, wp_ineg, wp_i2b, wp_i2s, wp_i2c, wp_i2l, wp_ladd, wp_lmul, wp_lcmp, wp_dup_i, wp_dup_r, wp_dup2, wp_pop, wp_getfield, wp_putfield, wp_getstatic, wp_iaload, wp_baload, wp_aaload, wp_iastore, wp_arraylength, wp_goto, wp_fall, wp_ieq, wp_ine, wp_ilt, wp_ige, wp_igt, wp_ile, wp_ceq, wp_cne, wp_clt, wp_cge, wp_cgt, wp_cle, wp_sw, wp_ret0, wp_ret1z, wp_ret1o, wp_ret1, wp_ret2, wp_ret3, wp_ret4, wp_ret5, wp_return, wp_min, wp_max, wp_abs, am_ex, gset_eq, gset_ne, upd_eq, upd_ne, gset_gset, am_ci_1, am_ci_6, am_toList_some, am_toList_none, true_implies, false_implies, and_self, and_true, true_and, not_true_eq_false, not_false_eq_true, imp_self, implies_true, Classical.not_not, if_true, if_false, false_and, and_false, or_false, false_or, true_or, or_true, Nat.reduceAdd, Nat.reduceMul, Nat.reduceSub, Nat.reduceLT, Nat.reduceLeDiff, Nat.reduceEqDiff, Nat.reduceBneDiff, Nat.add_zero, Nat.zero_add, reduceCtorEq, wil0, wal0, wis0, wic0, wil1, wal1, wis1, wic1, wil2, wll2, wal2, wis2, was2, wls2, wic2, wil3, wis3, wic3, wic3m, wic3s, wil4, wis4, wic4, wil5, wis5, wic5, wic5m, wil6, wll6, wal6, wis6, was6, wls6, wic6, wil7, wal7, wis7, was7, wic7, wil8, wis8, wic8, wil9, wis9, wic9, wil10, wis10, wic10, am_nI_inj, am_nI_lt, am_nI_le, nI_add, pk_mul, am_nI_sub, am_add_m1, am_gfs, am_pfs, am_alds, am_asts, am_lens, bk199_0, bk199_18, am_B199_0, am_B199_18, bn199_20, hL]
  exact k0
theorem MT_judge {X : AmX} {S : SS} {G : GG} (h : MSt S G) (hv : SV S) (a1 : Int32) : MW X 201 [.ref 58, .int a1] G (sp_judge S a1) := by
  have hE := h.1
  have f0 := hE.2.1
  have hv8 := hv.1.1.1
  have hm := MS_MR h hv
  unfold MW sp_judge
  have e2 : (nI 1 = nI 0) = False := eq_false (by decide)
  show WP X 201 (am_blk 201 0) [some (.ref 58), some (.int a1), none] [] G _
  by_cases h1 : inR a1 (nI 0) (nI 3) = true
  rotate_left
  · rw [if_neg h1]
    rw [Bool.not_eq_true] at h1
    have hL := fun (k : Nat) (r : List Instr) (lv : LV) (st : List Value) (Q : Option Value → GG → Prop) (hl : st.length ≤ 4) => C_X5_lacksO (X := X) (k := k) (st := st) (r := r) (lv := lv) (Q := Q) (G := G) (v := a1) h1 hl
    simp (config := { maxSteps := 1000000 }) (disch := first | exact am_nl_i | exact am_nl_r | exact am_nl_n | exact am_l0 | exact am_l1 | exact am_l2 | exact am_l3 | assumption | omega) only [wp_ldc, wp_sipush, wp_ldc_w, wp_lconst, wp_iadd, wp_isub, wp_imul, wp_iand, wp_ior, wp_ixor, wp_ishl, wp_ishr, wp_iushr, wp_idiv, wp_irem, wp_ineg, wp_i2b, wp_i2s, wp_i2c, wp_i2l, wp_ladd, wp_lmul, wp_lcmp, wp_dup_i, wp_dup_r, wp_dup2, wp_pop, wp_getfield, wp_putfield, wp_getstatic, wp_iaload, wp_baload, wp_aaload, wp_iastore, wp_arraylength, wp_goto, wp_fall, wp_ieq, wp_ine, wp_ilt, wp_ige, wp_igt, wp_ile, wp_ceq, wp_cne, wp_clt, wp_cge, wp_cgt, wp_cle, wp_sw, wp_ret0, wp_ret1z, wp_ret1o, wp_ret1, wp_ret2, wp_ret3, wp_ret4, wp_ret5, wp_return, wp_min, wp_max, wp_abs, am_ex, gset_eq, gset_ne, upd_eq, upd_ne, gset_gset, am_ci_1, am_ci_6, am_toList_some, am_toList_none, true_implies, false_implies, and_self, and_true, true_and, not_true_eq_false, not_false_eq_true, imp_self, implies_true, Classical.not_not, if_true, if_false, false_and, and_false, or_false, false_or, true_or, or_true, Nat.reduceAdd, Nat.reduceMul, Nat.reduceSub, Nat.reduceLT, Nat.reduceLeDiff, Nat.reduceEqDiff, Nat.reduceBneDiff, Nat.add_zero, Nat.zero_add, reduceCtorEq, wil0, wal0, wis0, wic0, wil1, wal1, wis1, wic1, wil2, wll2, wal2, wis2, was2, wls2, wic2, wil3, wis3, wic3, wic3m, wic3s, wil4, wis4, wic4, wil5, wis5, wic5, wic5m, wil6, wll6, wal6, wis6, was6, wls6, wic6, wil7, wal7, wis7, was7, wic7, wil8, wis8, wic8, wil9, wis9, wic9, wil10, wis10, wic10, am_nI_inj, am_nI_lt, am_nI_le, nI_add, pk_mul, am_nI_sub, am_add_m1, am_gfs, am_pfs, am_alds, am_asts, am_lens, bk201_0, am_B201_0, hL, fc_ne, C_X5_finding]
    first | exact ⟨rfl, MSt_fnd h (by omega), mfnd_frame⟩ | exact ⟨MSt_fnd h (by omega), mfnd_frame⟩
  rw [if_pos h1]
  obtain ⟨p, hp, rfl, h1'⟩ := rng_of (by omega) h1
  rw [aN_nI (show p < 2 ^ 31 by omega)]
  have hp4 : p < 4 := by omega
  obtain ⟨w1, w2, w3, w4, w5⟩ := ms_sh h hv hp4
  have hL := fun (k : Nat) (r : List Instr) (lv : LV) (st : List Value) (Q : Option Value → GG → Prop) (hl : st.length ≤ 4) => C_X5_lacks (X := X) (k := k) (st := st) (r := r) (lv := lv) (Q := Q) (G := G) (p := p) (w := S.2.2.2.1.1 p) hp4 w1 w4 hl
  by_cases h2 : S.2.2.2.1.1 p = 0
  · rw [if_pos h2]
    rw [if_pos h2] at hL
    simp (config := { maxSteps := 1000000 }) (disch := first | exact am_nl_i | exact am_nl_r | exact am_nl_n | exact am_l0 | exact am_l1 | exact am_l2 | exact am_l3 | assumption | omega) only [wp_ldc, wp_sipush, wp_ldc_w, wp_lconst, wp_iadd, wp_isub, wp_imul, wp_iand, wp_ior, wp_ixor, wp_ishl, wp_ishr, wp_iushr, wp_idiv, wp_irem, wp_ineg, wp_i2b, wp_i2s, wp_i2c, wp_i2l, wp_ladd, wp_lmul, wp_lcmp, wp_dup_i, wp_dup_r, wp_dup2, wp_pop, wp_getfield, wp_putfield, wp_getstatic, wp_iaload, wp_baload, wp_aaload, wp_iastore, wp_arraylength, wp_goto, wp_fall, wp_ieq, wp_ine, wp_ilt, wp_ige, wp_igt, wp_ile, wp_ceq, wp_cne, wp_clt, wp_cge, wp_cgt, wp_cle, wp_sw, wp_ret0, wp_ret1z, wp_ret1o, wp_ret1, wp_ret2, wp_ret3, wp_ret4, wp_ret5, wp_return, wp_min, wp_max, wp_abs, am_ex, gset_eq, gset_ne, upd_eq, upd_ne, gset_gset, am_ci_1, am_ci_6, am_toList_some, am_toList_none, true_implies, false_implies, and_self, and_true, true_and, not_true_eq_false, not_false_eq_true, imp_self, implies_true, Classical.not_not, if_true, if_false, false_and, and_false, or_false, false_or, true_or, or_true, Nat.reduceAdd, Nat.reduceMul, Nat.reduceSub, Nat.reduceLT, Nat.reduceLeDiff, Nat.reduceEqDiff, Nat.reduceBneDiff, Nat.add_zero, Nat.zero_add, reduceCtorEq, wil0, wal0, wis0, wic0, wil1, wal1, wis1, wic1, wil2, wll2, wal2, wis2, was2, wls2, wic2, wil3, wis3, wic3, wic3m, wic3s, wil4, wis4, wic4, wil5, wis5, wic5, wic5m, wil6, wll6, wal6, wis6, was6, wls6, wic6, wil7, wal7, wis7, was7, wic7, wil8, wis8, wic8, wil9, wis9, wic9, wil10, wis10, wic10, am_nI_inj, am_nI_lt, am_nI_le, nI_add, pk_mul, am_nI_sub, am_add_m1, am_gfs, am_pfs, am_alds, am_asts, am_lens, bk201_0, am_B201_0, hL, fc_ne, C_X5_finding]
    first | exact ⟨rfl, MSt_fnd h (by omega), mfnd_frame⟩ | exact ⟨MSt_fnd h (by omega), mfnd_frame⟩
  rw [if_neg h2]
  rw [if_neg h2] at hL
  obtain ⟨G1, hC, hc1, hk1, hf1⟩ := CM_now (X := X) h hv
  obtain ⟨v1, v2, v3, v4, v5⟩ := ms_sh hc1 hv hp4
  have g0 := hc1.1.2.1
  generalize hm' : S.2.2.2.1.2.1 p = m at *
  generalize hR : (match srchN (judB S p) m 0 with | some i => nI (1 + i) | none => nI 0) = R
  generalize hQ : (fun (v : Option Value) (G1 : GG) => v = some (.int (R, S).1) ∧ MSt (R, S).2 G1 ∧ ∀ o, o < 58 → G1 o = G o) = Q
  have hend : ∀ i : Nat, i ≤ 40 → R = (if i = m then nI 0 else nI (1 + i)) → WP X 201 (am_blk 201 (Int.toNat 68)) [some (.ref 58), some (.int (nI p)), some (.int (nI i))] [] G1 Q := by
    intro i hi hl
    by_cases e : i = m
    · rw [if_pos e] at hl
      have q := eq_true e
      simp (config := { maxSteps := 1000000 }) (disch := first | exact am_nl_i | exact am_nl_r | exact am_nl_n | exact am_l0 | exact am_l1 | exact am_l2 | exact am_l3 | assumption | omega) only [wp_ldc, wp_sipush, wp_ldc_w, wp_lconst, wp_iadd, wp_isub, wp_imul, wp_iand, wp_ior, wp_ixor, wp_ishl, wp_ishr, wp_iushr, wp_idiv, wp_irem, wp_ineg, wp_i2b, wp_i2s, wp_i2c, wp_i2l, wp_ladd, wp_lmul, wp_lcmp, wp_dup_i, wp_dup_r, wp_dup2, wp_pop, wp_getfield, wp_putfield, wp_getstatic, wp_iaload, wp_baload, wp_aaload, wp_iastore, wp_arraylength, wp_goto, wp_fall, wp_ieq, wp_ine, wp_ilt, wp_ige, wp_igt, wp_ile, wp_ceq, wp_cne, wp_clt, wp_cge, wp_cgt, wp_cle, wp_sw, wp_ret0, wp_ret1z, wp_ret1o, wp_ret1, wp_ret2, wp_ret3, wp_ret4, wp_ret5, wp_return, wp_min, wp_max, wp_abs, am_ex, gset_eq, gset_ne, upd_eq, upd_ne, gset_gset, am_ci_1, am_ci_6, am_toList_some, am_toList_none, true_implies, false_implies, and_self, and_true, true_and, not_true_eq_false, not_false_eq_true, imp_self, implies_true, Classical.not_not, if_true, if_false, false_and, and_false, or_false, false_or, true_or, or_true, Nat.reduceAdd, Nat.reduceMul, Nat.reduceSub, Nat.reduceLT, Nat.reduceLeDiff, Nat.reduceEqDiff, Nat.reduceBneDiff, Nat.add_zero, Nat.zero_add, reduceCtorEq, wil0, wal0, wis0, wic0, wil1, wal1, wis1, wic1, wil2, wll2, wal2, wis2, was2, wls2, wic2, wil3, wis3, wic3, wic3m, wic3s, wil4, wis4, wic4, wil5, wis5, wic5, wic5m, wil6, wll6, wal6, wis6, was6, wls6, wic6, wil7, wal7, wis7, was7, wic7, wil8, wis8, wic8, wil9, wis9, wic9, wil10, wis10, wic10, am_nI_inj, am_nI_lt, am_nI_le, nI_add, pk_mul, am_nI_sub, am_add_m1, am_gfs, am_pfs, am_alds, am_asts, am_lens, bk201_68, bk201_82, bk201_85, am_B201_68, am_B201_82, am_B201_85, v2, q]
      rw [← hQ, hl]
      exact ⟨rfl, hc1, hf1⟩
    · rw [if_neg e] at hl
      have q := eq_false e
      simp (config := { maxSteps := 1000000 }) (disch := first | exact am_nl_i | exact am_nl_r | exact am_nl_n | exact am_l0 | exact am_l1 | exact am_l2 | exact am_l3 | assumption | omega) only [wp_ldc, wp_sipush, wp_ldc_w, wp_lconst, wp_iadd, wp_isub, wp_imul, wp_iand, wp_ior, wp_ixor, wp_ishl, wp_ishr, wp_iushr, wp_idiv, wp_irem, wp_ineg, wp_i2b, wp_i2s, wp_i2c, wp_i2l, wp_ladd, wp_lmul, wp_lcmp, wp_dup_i, wp_dup_r, wp_dup2, wp_pop, wp_getfield, wp_putfield, wp_getstatic, wp_iaload, wp_baload, wp_aaload, wp_iastore, wp_arraylength, wp_goto, wp_fall, wp_ieq, wp_ine, wp_ilt, wp_ige, wp_igt, wp_ile, wp_ceq, wp_cne, wp_clt, wp_cge, wp_cgt, wp_cle, wp_sw, wp_ret0, wp_ret1z, wp_ret1o, wp_ret1, wp_ret2, wp_ret3, wp_ret4, wp_ret5, wp_return, wp_min, wp_max, wp_abs, am_ex, gset_eq, gset_ne, upd_eq, upd_ne, gset_gset, am_ci_1, am_ci_6, am_toList_some, am_toList_none, true_implies, false_implies, and_self, and_true, true_and, not_true_eq_false, not_false_eq_true, imp_self, implies_true, Classical.not_not, if_true, if_false, false_and, and_false, or_false, false_or, true_or, or_true, Nat.reduceAdd, Nat.reduceMul, Nat.reduceSub, Nat.reduceLT, Nat.reduceLeDiff, Nat.reduceEqDiff, Nat.reduceBneDiff, Nat.add_zero, Nat.zero_add, reduceCtorEq, wil0, wal0, wis0, wic0, wil1, wal1, wis1, wic1, wil2, wll2, wal2, wis2, was2, wls2, wic2, wil3, wis3, wic3, wic3m, wic3s, wil4, wis4, wic4, wil5, wis5, wic5, wic5m, wil6, wll6, wal6, wis6, was6, wls6, wic6, wil7, wal7, wis7, was7, wic7, wil8, wis8, wic8, wil9, wis9, wic9, wil10, wis10, wic10, am_nI_inj, am_nI_lt, am_nI_le, nI_add, pk_mul, am_nI_sub, am_add_m1, am_gfs, am_pfs, am_alds, am_asts, am_lens, bk201_68, bk201_82, bk201_85, am_B201_68, am_B201_82, am_B201_85, v2, q]
      rw [← hQ, hl]
      exact ⟨rfl, hc1, hf1⟩
  have key : ∀ d i : Nat, i + d = m → srchN (judB S p) m 0 = srchN (judB S p) d i → WP X 201 (am_blk 201 24) [some (.ref 58), some (.int (nI p)), some (.int (nI i))] [] G1 Q := by
    intro d
    induction d with
    | zero =>
      intro i hi hs
      obtain rfl : i = m := by omega
      have hen := hend i v5 (by rw [← hR, hs, if_pos rfl]; rfl)
      rw [bh201_24]
      simp (config := { maxSteps := 1000000 }) (disch := first | exact am_nl_i | exact am_nl_r | exact am_nl_n | exact am_l0 | exact am_l1 | exact am_l2 | exact am_l3 | assumption | omega) only [wp_ldc, wp_sipush, wp_ldc_w, wp_lconst, wp_iadd, wp_isub, wp_imul, wp_iand, wp_ior, wp_ixor, wp_ishl, wp_ishr, wp_iushr, wp_idiv, wp_irem, wp_ineg, wp_i2b, wp_i2s, wp_i2c, wp_i2l, wp_ladd, wp_lmul, wp_lcmp, wp_dup_i, wp_dup_r, wp_dup2, wp_pop, wp_getfield, wp_putfield, wp_getstatic, wp_iaload, wp_baload, wp_aaload, wp_iastore, wp_arraylength, wp_goto, wp_fall, wp_ieq, wp_ine, wp_ilt, wp_ige, wp_igt, wp_ile, wp_ceq, wp_cne, wp_clt, wp_cge, wp_cgt, wp_cle, wp_sw, wp_ret0, wp_ret1z, wp_ret1o, wp_ret1, wp_ret2, wp_ret3, wp_ret4, wp_ret5, wp_return, wp_min, wp_max, wp_abs, am_ex, gset_eq, gset_ne, upd_eq, upd_ne, gset_gset, am_ci_1, am_ci_6, am_toList_some, am_toList_none, true_implies, false_implies, and_self, and_true, true_and, not_true_eq_false, not_false_eq_true, imp_self, implies_true, Classical.not_not, if_true, if_false, false_and, and_false, or_false, false_or, true_or, or_true, Nat.reduceAdd, Nat.reduceMul, Nat.reduceSub, Nat.reduceLT, Nat.reduceLeDiff, Nat.reduceEqDiff, Nat.reduceBneDiff, Nat.add_zero, Nat.zero_add, reduceCtorEq, wil0, wal0, wis0, wic0, wil1, wal1, wis1, wic1, wil2, wll2, wal2, wis2, was2, wls2, wic2, wil3, wis3, wic3, wic3m, wic3s, wil4, wis4, wic4, wil5, wis5, wic5, wic5m, wil6, wll6, wal6, wis6, was6, wls6, wic6, wil7, wal7, wis7, was7, wic7, wil8, wis8, wic8, wil9, wis9, wic9, wil10, wis10, wic10, am_nI_inj, am_nI_lt, am_nI_le, nI_add, pk_mul, am_nI_sub, am_add_m1, am_gfs, am_pfs, am_alds, am_asts, am_lens, am_B201_24, v2, Nat.le_refl]
      exact hen
    | succ d ih =>
      intro i hi hs
      have q1 : (m ≤ i) = False := eq_false (by omega)
      have hi40 : i < 40 := by omega
      have hi160 : 40 * p + i < 160 := by omega
      have c2 := v3 i hi40
      have hdef : judB S p i = !(decide (i < S.1.1) && decide (eP (chN S.1.2.1 S.1.1 i) = S.2.2.2.1.2.2 p i)) := rfl
      have hin := inR_nat (a := i) (n := S.1.1) (by omega) (by omega)
      rw [bh201_24]
      have hen : judB S p i = true → WP X 201 (am_blk 201 (Int.toNat 68)) [some (.ref 58), some (.int (nI p)), some (.int (nI i))] [] G1 Q := fun hb => by
        rw [srch_1 hb] at hs
        exact hend i (by omega) (by rw [← hR, hs, if_neg (by omega)])
      by_cases hi8 : i < S.1.1
      · rw [decide_eq_true hi8] at hin
        have hin2 : inR (nI i) (nI 0) (nI (S.1.1 - 1)) = true := by
          rw [am_nI_sub (by omega)] at hin
          exact hin
        have hn1 : 1 ≤ S.1.1 := by omega
        have hi8' : i < 8 := by omega
        have f3 := hk1.1 i hi8
        by_cases hr : S.2.2.2.1.2.2 p i = eP (chN S.1.2.1 S.1.1 i)
        · have hb : ¬ judB S p i = true := by rw [hdef, decide_eq_true hi8, decide_eq_true hr.symm]; decide
          rw [srch_n hb] at hs
          have ihk := ih (i + 1) (by omega) hs
          have q3 := eq_true hr
          simp (config := { maxSteps := 1000000 }) (disch := first | exact am_nl_i | exact am_nl_r | exact am_nl_n | exact am_l0 | exact am_l1 | exact am_l2 | exact am_l3 | assumption | omega) only [wp_ldc, wp_sipush, wp_ldc_w, wp_lconst, wp_iadd, wp_isub, wp_imul, wp_iand, wp_ior, wp_ixor, wp_ishl, wp_ishr, wp_iushr, wp_idiv, wp_irem, wp_ineg, wp_i2b, wp_i2s, wp_i2c, wp_i2l, wp_ladd, wp_lmul, wp_lcmp, wp_dup_i, wp_dup_r, wp_dup2, wp_pop, wp_getfield, wp_putfield, wp_getstatic, wp_iaload, wp_baload, wp_aaload, wp_iastore, wp_arraylength, wp_goto, wp_fall, wp_ieq, wp_ine, wp_ilt, wp_ige, wp_igt, wp_ile, wp_ceq, wp_cne, wp_clt, wp_cge, wp_cgt, wp_cle, wp_sw, wp_ret0, wp_ret1z, wp_ret1o, wp_ret1, wp_ret2, wp_ret3, wp_ret4, wp_ret5, wp_return, wp_min, wp_max, wp_abs, am_ex, gset_eq, gset_ne, upd_eq, upd_ne, gset_gset, am_ci_1, am_ci_6, am_toList_some, am_toList_none, true_implies, false_implies, and_self, and_true, true_and, not_true_eq_false, not_false_eq_true, imp_self, implies_true, Classical.not_not, if_true, if_false, false_and, and_false, or_false, false_or, true_or, or_true, Nat.reduceAdd, Nat.reduceMul, Nat.reduceSub, Nat.reduceLT, Nat.reduceLeDiff, Nat.reduceEqDiff, Nat.reduceBneDiff, Nat.add_zero, Nat.zero_add, reduceCtorEq, wil0, wal0, wis0, wic0, wil1, wal1, wis1, wic1, wil2, wll2, wal2, wis2, was2, wls2, wic2, wil3, wis3, wic3, wic3m, wic3s, wil4, wis4, wic4, wil5, wis5, wic5, wic5m, wil6, wll6, wal6, wis6, was6, wls6, wic6, wil7, wal7, wis7, was7, wic7, wil8, wis8, wic8, wil9, wis9, wic9, wil10, wis10, wic10, am_nI_inj, am_nI_lt, am_nI_le, nI_add, pk_mul, am_nI_sub, am_add_m1, am_gfs, am_pfs, am_alds, am_asts, am_lens, am_B201_24, bn201_24, v2, q1, C_X5_isPerson, g0, hin2, bI_t, e2, c2, f3, q3]
          exact ihk
        · have hen := hen (by rw [hdef, decide_eq_true hi8, decide_eq_false (fun z => hr z.symm)]; rfl)
          have q3 := eq_false hr
          simp (config := { maxSteps := 1000000 }) (disch := first | exact am_nl_i | exact am_nl_r | exact am_nl_n | exact am_l0 | exact am_l1 | exact am_l2 | exact am_l3 | assumption | omega) only [wp_ldc, wp_sipush, wp_ldc_w, wp_lconst, wp_iadd, wp_isub, wp_imul, wp_iand, wp_ior, wp_ixor, wp_ishl, wp_ishr, wp_iushr, wp_idiv, wp_irem, wp_ineg, wp_i2b, wp_i2s, wp_i2c, wp_i2l, wp_ladd, wp_lmul, wp_lcmp, wp_dup_i, wp_dup_r, wp_dup2, wp_pop, wp_getfield, wp_putfield, wp_getstatic, wp_iaload, wp_baload, wp_aaload, wp_iastore, wp_arraylength, wp_goto, wp_fall, wp_ieq, wp_ine, wp_ilt, wp_ige, wp_igt, wp_ile, wp_ceq, wp_cne, wp_clt, wp_cge, wp_cgt, wp_cle, wp_sw, wp_ret0, wp_ret1z, wp_ret1o, wp_ret1, wp_ret2, wp_ret3, wp_ret4, wp_ret5, wp_return, wp_min, wp_max, wp_abs, am_ex, gset_eq, gset_ne, upd_eq, upd_ne, gset_gset, am_ci_1, am_ci_6, am_toList_some, am_toList_none, true_implies, false_implies, and_self, and_true, true_and, not_true_eq_false, not_false_eq_true, imp_self, implies_true, Classical.not_not, if_true, if_false, false_and, and_false, or_false, false_or, true_or, or_true, Nat.reduceAdd, Nat.reduceMul, Nat.reduceSub, Nat.reduceLT, Nat.reduceLeDiff, Nat.reduceEqDiff, Nat.reduceBneDiff, Nat.add_zero, Nat.zero_add, reduceCtorEq, wil0, wal0, wis0, wic0, wil1, wal1, wis1, wic1, wil2, wll2, wal2, wis2, was2, wls2, wic2, wil3, wis3, wic3, wic3m, wic3s, wil4, wis4, wic4, wil5, wis5, wic5, wic5m, wil6, wll6, wal6, wis6, was6, wls6, wic6, wil7, wal7, wis7, was7, wic7, wil8, wis8, wic8, wil9, wis9, wic9, wil10, wis10, wic10, am_nI_inj, am_nI_lt, am_nI_le, nI_add, pk_mul, am_nI_sub, am_add_m1, am_gfs, am_pfs, am_alds, am_asts, am_lens, am_B201_24, v2, q1, C_X5_isPerson, g0, hin2, bI_t, e2, c2, f3, q3]
          exact hen
      · rw [decide_eq_false hi8] at hin
        have hen := hen (by rw [hdef, decide_eq_false hi8]; rfl)
        by_cases hn1 : 1 ≤ S.1.1
        · rw [am_nI_sub (by omega)] at hin
          simp (config := { maxSteps := 1000000 }) (disch := first | exact am_nl_i | exact am_nl_r | exact am_nl_n | exact am_l0 | exact am_l1 | exact am_l2 | exact am_l3 | assumption | omega) only [wp_ldc, wp_sipush, wp_ldc_w, wp_lconst, wp_iadd, wp_isub, wp_imul, wp_iand, wp_ior, wp_ixor, wp_ishl, wp_ishr, wp_iushr, wp_idiv, wp_irem, wp_ineg, wp_i2b, wp_i2s, wp_i2c, wp_i2l, wp_ladd, wp_lmul, wp_lcmp, wp_dup_i, wp_dup_r, wp_dup2, wp_pop, wp_getfield, wp_putfield, wp_getstatic, wp_iaload, wp_baload, wp_aaload, wp_iastore, wp_arraylength, wp_goto, wp_fall, wp_ieq, wp_ine, wp_ilt, wp_ige, wp_igt, wp_ile, wp_ceq, wp_cne, wp_clt, wp_cge, wp_cgt, wp_cle, wp_sw, wp_ret0, wp_ret1z, wp_ret1o, wp_ret1, wp_ret2, wp_ret3, wp_ret4, wp_ret5, wp_return, wp_min, wp_max, wp_abs, am_ex, gset_eq, gset_ne, upd_eq, upd_ne, gset_gset, am_ci_1, am_ci_6, am_toList_some, am_toList_none, true_implies, false_implies, and_self, and_true, true_and, not_true_eq_false, not_false_eq_true, imp_self, implies_true, Classical.not_not, if_true, if_false, false_and, and_false, or_false, false_or, true_or, or_true, Nat.reduceAdd, Nat.reduceMul, Nat.reduceSub, Nat.reduceLT, Nat.reduceLeDiff, Nat.reduceEqDiff, Nat.reduceBneDiff, Nat.add_zero, Nat.zero_add, reduceCtorEq, wil0, wal0, wis0, wic0, wil1, wal1, wis1, wic1, wil2, wll2, wal2, wis2, was2, wls2, wic2, wil3, wis3, wic3, wic3m, wic3s, wil4, wis4, wic4, wil5, wis5, wic5, wic5m, wil6, wll6, wal6, wis6, was6, wls6, wic6, wil7, wal7, wis7, was7, wic7, wil8, wis8, wic8, wil9, wis9, wic9, wil10, wis10, wic10, am_nI_inj, am_nI_lt, am_nI_le, nI_add, pk_mul, am_nI_sub, am_add_m1, am_gfs, am_pfs, am_alds, am_asts, am_lens, am_B201_24, v2, q1, C_X5_isPerson, g0, hin, bI_f]
          exact hen
        · have hz : S.1.1 = 0 := by omega
          rw [hz] at hin g0
          simp (config := { maxSteps := 1000000 }) (disch := first | exact am_nl_i | exact am_nl_r | exact am_nl_n | exact am_l0 | exact am_l1 | exact am_l2 | exact am_l3 | assumption | omega) only [wp_ldc, wp_sipush, wp_ldc_w, wp_lconst, wp_iadd, wp_isub, wp_imul, wp_iand, wp_ior, wp_ixor, wp_ishl, wp_ishr, wp_iushr, wp_idiv, wp_irem, wp_ineg, wp_i2b, wp_i2s, wp_i2c, wp_i2l, wp_ladd, wp_lmul, wp_lcmp, wp_dup_i, wp_dup_r, wp_dup2, wp_pop, wp_getfield, wp_putfield, wp_getstatic, wp_iaload, wp_baload, wp_aaload, wp_iastore, wp_arraylength, wp_goto, wp_fall, wp_ieq, wp_ine, wp_ilt, wp_ige, wp_igt, wp_ile, wp_ceq, wp_cne, wp_clt, wp_cge, wp_cgt, wp_cle, wp_sw, wp_ret0, wp_ret1z, wp_ret1o, wp_ret1, wp_ret2, wp_ret3, wp_ret4, wp_ret5, wp_return, wp_min, wp_max, wp_abs, am_ex, gset_eq, gset_ne, upd_eq, upd_ne, gset_gset, am_ci_1, am_ci_6, am_toList_some, am_toList_none, true_implies, false_implies, and_self, and_true, true_and, not_true_eq_false, not_false_eq_true, imp_self, implies_true, Classical.not_not, if_true, if_false, false_and, and_false, or_false, false_or, true_or, or_true, Nat.reduceAdd, Nat.reduceMul, Nat.reduceSub, Nat.reduceLT, Nat.reduceLeDiff, Nat.reduceEqDiff, Nat.reduceBneDiff, Nat.add_zero, Nat.zero_add, reduceCtorEq, wil0, wal0, wis0, wic0, wil1, wal1, wis1, wic1, wil2, wll2, wal2, wis2, was2, wls2, wic2, wil3, wis3, wic3, wic3m, wic3s, wil4, wis4, wic4, wil5, wis5, wic5, wic5m, wil6, wll6, wal6, wis6, was6, wls6, wic6, wil7, wal7, wis7, was7, wic7, wil8, wis8, wic8, wil9, wis9, wic9, wil10, wis10, wic10, am_nI_inj, am_nI_lt, am_nI_le, nI_add, pk_mul, am_nI_sub, am_add_m1, am_gfs, am_pfs, am_alds, am_asts, am_lens, am_B201_24, v2, q1, C_X5_isPerson, g0, hin, bI_f]
          exact hen
  have k0 := key m 0 (by omega) rfl
  simp (config := { maxSteps := 1000000 }) (disch := first | exact am_nl_i | exact am_nl_r | exact am_nl_n | exact am_l0 | exact am_l1 | exact am_l2 | exact am_l3 | assumption | omega) only [wp_ldc, wp_sipush, wp_ldc_w, wp_lconst, wp_iadd, wp_isub, wp_imul, wp_iand, wp_ior, wp_ixor, wp_ishl, wp_ishr, wp_iushr, wp_idiv, wp_irem, wp_ineg, wp_i2b, wp_i2s, wp_i2c, wp_i2l, wp_ladd, wp_lmul, wp_lcmp, wp_dup_i, wp_dup_r, wp_dup2, wp_pop, wp_getfield, wp_putfield, wp_getstatic, wp_iaload, wp_baload, wp_aaload, wp_iastore, wp_arraylength, wp_goto, wp_fall, wp_ieq, wp_ine, wp_ilt, wp_ige, wp_igt, wp_ile, wp_ceq, wp_cne, wp_clt, wp_cge, wp_cgt, wp_cle, wp_sw, wp_ret0, wp_ret1z, wp_ret1o, wp_ret1, wp_ret2, wp_ret3, wp_ret4, wp_ret5, wp_return, wp_min, wp_max, wp_abs, am_ex, gset_eq, gset_ne, upd_eq, upd_ne, gset_gset, am_ci_1, am_ci_6, am_toList_some, am_toList_none, true_implies, false_implies, and_self, and_true, true_and, not_true_eq_false, not_false_eq_true, imp_self, implies_true, Classical.not_not, if_true, if_false, false_and, and_false, or_false, false_or, true_or, or_true, Nat.reduceAdd, Nat.reduceMul, Nat.reduceSub, Nat.reduceLT, Nat.reduceLeDiff, Nat.reduceEqDiff, Nat.reduceBneDiff, Nat.add_zero, Nat.zero_add, reduceCtorEq, wil0, wal0, wis0, wic0, wil1, wal1, wis1, wic1, wil2, wll2, wal2, wis2, was2, wls2, wic2, wil3, wis3, wic3, wic3m, wic3s, wil4, wis4, wic4, wil5, wis5, wic5, wic5m, wil6, wll6, wal6, wis6, was6, wls6, wic6, wil7, wal7, wis7, was7, wic7, wil8, wis8, wic8, wil9, wis9, wic9, wil10, wis10, wic10, am_nI_inj, am_nI_lt, am_nI_le, nI_add, pk_mul, am_nI_sub, am_add_m1, am_gfs, am_pfs, am_alds, am_asts, am_lens, bk201_0, bk201_18, am_B201_0, am_B201_18, bn201_24, hL, hC]
  subst hQ
  subst hR
  exact k0
