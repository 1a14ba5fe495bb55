/-! ===== the class: crowd, change, seed, wipe, image, undo, tear, hold ===== -/
def minC (T : TT) (n p : Nat) : Nat → Nat
  | 0 => 8
  | k + 1 => min (minC T n p k) (ccN (runN n k T) n p)
def maxC (T : TT) (n p : Nat) : Nat → Nat
  | 0 => 0
  | k + 1 => max (maxC T n p k) (ccN (runN n k T) n p)
theorem minC_le (T : TT) (n p : Nat) : ∀ k, minC T n p k ≤ 8
  | 0 => Nat.le_refl _
  | k + 1 => by have := minC_le T n p k; unfold minC; omega
theorem maxC_le (T : TT) (n p : Nat) (h : n ≤ 8) : ∀ k, maxC T n p k ≤ 8
  | 0 => Nat.zero_le _
  | k + 1 => by have := maxC_le T n p h k; have := ccN_le (runN n k T) n p; unfold maxC; omega
def sp_crowd (S : SS) (a1 a2 a3 : Int32) : Int32 × SS :=
  if inR a1 (nI 0) (nI 7) = true ∧ inR a2 (nI 1) (nI 100) = true ∧ inR a3 (nI 0) (nI 1) = true then (nI (if aN a3 = 0 then minC S.1.2.1 S.1.1 (aN a1) (aN a2) else maxC S.1.2.1 S.1.1 (aN a1) (aN a2)), S) else sFnd S 0
theorem CT_crowd {X : AmX} {S : SS} {G : GG} (h : CSt S G) (a1 a2 a3 : Int32) : CW X 99 [.ref 0, .int a1, .int a2, .int a3] G (sp_crowd S a1 a2 a3) := by
  have hE := h.1
  unfold TWE at hE
  have f0 := hE.1
  have hv8 := h.2.1.1.1
  unfold CW sp_crowd
  have hb := tb1
  have hb12 := tb12
  have hb23 := tb23
  have e2 : (nI 1 = nI 0) = False := eq_false (by decide)
  show WP X 99 (am_blk 99 0) [some (.ref 0), some (.int a1), some (.int a2), some (.int a3), none, none, none] [] G _
  by_cases h1 : inR a1 (nI 0) (nI 7) = true
  rotate_left
  · rw [if_neg (fun z => h1 z.1)]
    rw [Bool.not_eq_true] at h1
    simp (config := { maxSteps := 1000000 }) (disch := first | exact am_nl_i | exact am_nl_r | exact am_nl_n | exact am_l0 | exact am_l1 | exact am_l2 | exact am_l3 | assumption | omega) only [wp_ldc, wp_sipush, wp_ldc_w, wp_lconst, wp_iadd, wp_isub, wp_imul, wp_iand, wp_ior, wp_ixor, wp_ishl, wp_ishr, wp_iushr, wp_idiv, wp_irem, wp_ineg, wp_i2b, wp_i2s, wp_i2c, wp_i2l, wp_ladd, wp_lmul, wp_lcmp, wp_dup_i, wp_dup_r, wp_dup2, wp_pop, wp_getfield, wp_putfield, wp_getstatic, wp_iaload, wp_baload, wp_aaload, wp_iastore, wp_arraylength, wp_goto, wp_fall, wp_ieq, wp_ine, wp_ilt, wp_ige, wp_igt, wp_ile, wp_ceq, wp_cne, wp_clt, wp_cge, wp_cgt, wp_cle, wp_sw, wp_ret0, wp_ret1z, wp_ret1o, wp_ret1, wp_ret2, wp_ret3, wp_ret4, wp_ret5, wp_return, wp_min, wp_max, wp_abs, am_ex, gset_eq, gset_ne, upd_eq, upd_ne, gset_gset, am_ci_1, am_ci_6, am_toList_some, am_toList_none, true_implies, false_implies, and_self, and_true, true_and, not_true_eq_false, not_false_eq_true, imp_self, implies_true, Classical.not_not, if_true, if_false, false_and, and_false, or_false, false_or, true_or, or_true, Nat.reduceAdd, Nat.reduceMul, Nat.reduceSub, Nat.reduceLT, Nat.reduceLeDiff, Nat.reduceEqDiff, Nat.reduceBneDiff, Nat.add_zero, Nat.zero_add, reduceCtorEq, wil0, wal0, wis0, wic0, wil1, wal1, wis1, wic1, wil2, wll2, wal2, wis2, was2, wls2, wic2, wil3, wis3, wic3, wic3m, wic3s, wil4, wis4, wic4, wil5, wis5, wic5, wic5m, wil6, wll6, wal6, wis6, was6, wls6, wic6, wil7, wal7, wis7, was7, wic7, wil8, wis8, wic8, wil9, wis9, wic9, wil10, wis10, wic10, am_nI_inj, am_nI_lt, am_nI_le, nI_add, pk_mul, am_nI_sub, am_add_m1, am_gfs, am_pfs, am_alds, am_asts, am_lens, tgf0, tgf1, tgf2, tgf3, tgf4, tgf5, tgf6, tgf7, tgf8, tgf9, tgf10, tgf11, tgf12, tpf7, tpf8, tpf9, tal0, tas0, tln0, tal1, tas1, tln1, tal2, tas2, tln2, tal3, tas3, tln3, tal4, tas4, tln4, tal5, tas5, tln5, tal6, tas6, tln6, tal7, tas7, tln7, tal8, tas8, tln8, tal9, tas9, tln9, bs99, am_B99_0, am_B99_26, am_B99_33, am_B99_54, am_B99_106, am_B99_115, am_B99_117, C_X4_isThere, C_X4_isPlace, C_X4_isWithin, C_X4_isKind, C_X4_isSpot, C_X4_isSheet, h1, bI_t, bI_f, e2, f0, fcs, C_X4_found]
    first | exact ⟨rfl, CSt_fnd h (by omega), fnd_frame⟩ | exact ⟨CSt_fnd h (by omega), fnd_frame⟩
  by_cases h2 : inR a2 (nI 1) (nI 100) = true
  rotate_left
  · rw [if_neg (fun z => h2 z.2.1)]
    rw [Bool.not_eq_true] at h2
    simp (config := { maxSteps := 1000000 }) (disch := first | exact am_nl_i | exact am_nl_r | exact am_nl_n | exact am_l0 | exact am_l1 | exact am_l2 | exact am_l3 | assumption | omega) only [wp_ldc, wp_sipush, wp_ldc_w, wp_lconst, wp_iadd, wp_isub, wp_imul, wp_iand, wp_ior, wp_ixor, wp_ishl, wp_ishr, wp_iushr, wp_idiv, wp_irem, wp_ineg, wp_i2b, wp_i2s, wp_i2c, wp_i2l, wp_ladd, wp_lmul, wp_lcmp, wp_dup_i, wp_dup_r, wp_dup2, wp_pop, wp_getfield, wp_putfield, wp_getstatic, wp_iaload, wp_baload, wp_aaload, wp_iastore, wp_arraylength, wp_goto, wp_fall, wp_ieq, wp_ine, wp_ilt, wp_ige, wp_igt, wp_ile, wp_ceq, wp_cne, wp_clt, wp_cge, wp_cgt, wp_cle, wp_sw, wp_ret0, wp_ret1z, wp_ret1o, wp_ret1, wp_ret2, wp_ret3, wp_ret4, wp_ret5, wp_return, wp_min, wp_max, wp_abs, am_ex, gset_eq, gset_ne, upd_eq, upd_ne, gset_gset, am_ci_1, am_ci_6, am_toList_some, am_toList_none, true_implies, false_implies, and_self, and_true, true_and, not_true_eq_false, not_false_eq_true, imp_self, implies_true, Classical.not_not, if_true, if_false, false_and, and_false, or_false, false_or, true_or, or_true, Nat.reduceAdd, Nat.reduceMul, Nat.reduceSub, Nat.reduceLT, Nat.reduceLeDiff, Nat.reduceEqDiff, Nat.reduceBneDiff, Nat.add_zero, Nat.zero_add, reduceCtorEq, wil0, wal0, wis0, wic0, wil1, wal1, wis1, wic1, wil2, wll2, wal2, wis2, was2, wls2, wic2, wil3, wis3, wic3, wic3m, wic3s, wil4, wis4, wic4, wil5, wis5, wic5, wic5m, wil6, wll6, wal6, wis6, was6, wls6, wic6, wil7, wal7, wis7, was7, wic7, wil8, wis8, wic8, wil9, wis9, wic9, wil10, wis10, wic10, am_nI_inj, am_nI_lt, am_nI_le, nI_add, pk_mul, am_nI_sub, am_add_m1, am_gfs, am_pfs, am_alds, am_asts, am_lens, tgf0, tgf1, tgf2, tgf3, tgf4, tgf5, tgf6, tgf7, tgf8, tgf9, tgf10, tgf11, tgf12, tpf7, tpf8, tpf9, tal0, tas0, tln0, tal1, tas1, tln1, tal2, tas2, tln2, tal3, tas3, tln3, tal4, tas4, tln4, tal5, tas5, tln5, tal6, tas6, tln6, tal7, tas7, tln7, tal8, tas8, tln8, tal9, tas9, tln9, bs99, am_B99_0, am_B99_26, am_B99_33, am_B99_54, am_B99_106, am_B99_115, am_B99_117, C_X4_isThere, C_X4_isPlace, C_X4_isWithin, C_X4_isKind, C_X4_isSpot, C_X4_isSheet, h1, h2, bI_t, bI_f, e2, f0, fcs, C_X4_found]
    first | exact ⟨rfl, CSt_fnd h (by omega), fnd_frame⟩ | exact ⟨CSt_fnd h (by omega), fnd_frame⟩
  by_cases h3 : inR a3 (nI 0) (nI 1) = true
  rotate_left
  · rw [if_neg (fun z => h3 z.2.2)]
    rw [Bool.not_eq_true] at h3
    simp (config := { maxSteps := 1000000 }) (disch := first | exact am_nl_i | exact am_nl_r | exact am_nl_n | exact am_l0 | exact am_l1 | exact am_l2 | exact am_l3 | assumption | omega) only [wp_ldc, wp_sipush, wp_ldc_w, wp_lconst, wp_iadd, wp_isub, wp_imul, wp_iand, wp_ior, wp_ixor, wp_ishl, wp_ishr, wp_iushr, wp_idiv, wp_irem, wp_ineg, wp_i2b, wp_i2s, wp_i2c, wp_i2l, wp_ladd, wp_lmul, wp_lcmp, wp_dup_i, wp_dup_r, wp_dup2, wp_pop, wp_getfield, wp_putfield, wp_getstatic, wp_iaload, wp_baload, wp_aaload, wp_iastore, wp_arraylength, wp_goto, wp_fall, wp_ieq, wp_ine, wp_ilt, wp_ige, wp_igt, wp_ile, wp_ceq, wp_cne, wp_clt, wp_cge, wp_cgt, wp_cle, wp_sw, wp_ret0, wp_ret1z, wp_ret1o, wp_ret1, wp_ret2, wp_ret3, wp_ret4, wp_ret5, wp_return, wp_min, wp_max, wp_abs, am_ex, gset_eq, gset_ne, upd_eq, upd_ne, gset_gset, am_ci_1, am_ci_6, am_toList_some, am_toList_none, true_implies, false_implies, and_self, and_true, true_and, not_true_eq_false, not_false_eq_true, imp_self, implies_true, Classical.not_not, if_true, if_false, false_and, and_false, or_false, false_or, true_or, or_true, Nat.reduceAdd, Nat.reduceMul, Nat.reduceSub, Nat.reduceLT, Nat.reduceLeDiff, Nat.reduceEqDiff, Nat.reduceBneDiff, Nat.add_zero, Nat.zero_add, reduceCtorEq, wil0, wal0, wis0, wic0, wil1, wal1, wis1, wic1, wil2, wll2, wal2, wis2, was2, wls2, wic2, wil3, wis3, wic3, wic3m, wic3s, wil4, wis4, wic4, wil5, wis5, wic5, wic5m, wil6, wll6, wal6, wis6, was6, wls6, wic6, wil7, wal7, wis7, was7, wic7, wil8, wis8, wic8, wil9, wis9, wic9, wil10, wis10, wic10, am_nI_inj, am_nI_lt, am_nI_le, nI_add, pk_mul, am_nI_sub, am_add_m1, am_gfs, am_pfs, am_alds, am_asts, am_lens, tgf0, tgf1, tgf2, tgf3, tgf4, tgf5, tgf6, tgf7, tgf8, tgf9, tgf10, tgf11, tgf12, tpf7, tpf8, tpf9, tal0, tas0, tln0, tal1, tas1, tln1, tal2, tas2, tln2, tal3, tas3, tln3, tal4, tas4, tln4, tal5, tas5, tln5, tal6, tas6, tln6, tal7, tas7, tln7, tal8, tas8, tln8, tal9, tas9, tln9, bs99, am_B99_0, am_B99_26, am_B99_33, am_B99_54, am_B99_106, am_B99_115, am_B99_117, C_X4_isThere, C_X4_isPlace, C_X4_isWithin, C_X4_isKind, C_X4_isSpot, C_X4_isSheet, h1, h2, h3, bI_t, bI_f, e2, f0, fcs, C_X4_found]
    first | exact ⟨rfl, CSt_fnd h (by omega), fnd_frame⟩ | exact ⟨CSt_fnd h (by omega), fnd_frame⟩
  rw [if_pos ⟨h1, h2, h3⟩]
  obtain ⟨p, hp, rfl, h1'⟩ := rng_of (by omega) h1
  obtain ⟨x, hx1, hx, rfl, h2'⟩ := rng1_of (by omega) h2
  obtain ⟨q, hq, rfl, h3'⟩ := rng_of (by omega) h3
  rw [aN_nI (show p < 2 ^ 31 by omega), aN_nI (show x < 2 ^ 31 by omega), aN_nI (show q < 2 ^ 31 by omega)]
  generalize hQ : (fun (w : Option Value) (G1 : GG) => w = some (.int (nI (if q = 0 then minC S.1.2.1 S.1.1 p x else maxC S.1.2.1 S.1.1 p x), S).1) ∧ CSt (nI (if q = 0 then minC S.1.2.1 S.1.1 p x else maxC S.1.2.1 S.1.1 p x), S).2 G1 ∧ ∀ o, 58 ≤ o → G1 o = G o) = Q
  obtain ⟨G1, hC, hc1, hf1⟩ := CS_become (X := X) h
  have key : ∀ d i : Nat, i + d = x → ∀ G', TRS S (wPass S.1 i) G' → (∀ o, 58 ≤ o → G' o = G o) → WP X 99 (am_blk 99 54) [some (.ref 0), some (.int (nI p)), some (.int (nI x)), some (.int (nI q)), some (.int (nI (minC S.1.2.1 S.1.1 p i))), some (.int (nI (maxC S.1.2.1 S.1.1 p i))), some (.int (nI i))] [] G' Q := by
    intro d
    induction d with
    | zero =>
      intro i hi G' hc hf
      obtain rfl : i = x := by omega
      rw [← hQ]
      rw [bh99_54]
      rcases (by omega : q = 0 ∨ q = 1) with rfl | rfl
      · simp (config := { maxSteps := 1000000 }) (disch := first | exact am_nl_i | exact am_nl_r | exact am_nl_n | exact am_l0 | exact am_l1 | exact am_l2 | exact am_l3 | assumption | omega) only [wp_ldc, wp_sipush, wp_ldc_w, wp_lconst, wp_iadd, wp_isub, wp_imul, wp_iand, wp_ior, wp_ixor, wp_ishl, wp_ishr, wp_iushr, wp_idiv, wp_irem, wp_ineg, wp_i2b, wp_i2s, wp_i2c, wp_i2l, wp_ladd, wp_lmul, wp_lcmp, wp_dup_i, wp_dup_r, wp_dup2, wp_pop, wp_getfield, wp_putfield, wp_getstatic, wp_iaload, wp_baload, wp_aaload, wp_iastore, wp_arraylength, wp_goto, wp_fall, wp_ieq, wp_ine, wp_ilt, wp_ige, wp_igt, wp_ile, wp_ceq, wp_cne, wp_clt, wp_cge, wp_cgt, wp_cle, wp_sw, wp_ret0, wp_ret1z, wp_ret1o, wp_ret1, wp_ret2, wp_ret3, wp_ret4, wp_ret5, wp_return, wp_min, wp_max, wp_abs, am_ex, gset_eq, gset_ne, upd_eq, upd_ne, gset_gset, am_ci_1, am_ci_6, am_toList_some, am_toList_none, true_implies, false_implies, and_self, and_true, true_and, not_true_eq_false, not_false_eq_true, imp_self, implies_true, Classical.not_not, if_true, if_false, false_and, and_false, or_false, false_or, true_or, or_true, Nat.reduceAdd, Nat.reduceMul, Nat.reduceSub, Nat.reduceLT, Nat.reduceLeDiff, Nat.reduceEqDiff, Nat.reduceBneDiff, Nat.add_zero, Nat.zero_add, reduceCtorEq, wil0, wal0, wis0, wic0, wil1, wal1, wis1, wic1, wil2, wll2, wal2, wis2, was2, wls2, wic2, wil3, wis3, wic3, wic3m, wic3s, wil4, wis4, wic4, wil5, wis5, wic5, wic5m, wil6, wll6, wal6, wis6, was6, wls6, wic6, wil7, wal7, wis7, was7, wic7, wil8, wis8, wic8, wil9, wis9, wic9, wil10, wis10, wic10, am_nI_inj, am_nI_lt, am_nI_le, nI_add, pk_mul, am_nI_sub, am_add_m1, am_gfs, am_pfs, am_alds, am_asts, am_lens, tgf0, tgf1, tgf2, tgf3, tgf4, tgf5, tgf6, tgf7, tgf8, tgf9, tgf10, tgf11, tgf12, tpf7, tpf8, tpf9, tal0, tas0, tln0, tal1, tas1, tln1, tal2, tas2, tln2, tal3, tas3, tln3, tal4, tas4, tln4, tal5, tas5, tln5, tal6, tas6, tln6, tal7, tas7, tln7, tal8, tas8, tln8, tal9, tas9, tln9, bk99_106, bk99_115, bk99_117, am_B99_54, am_B99_106, am_B99_115, am_B99_117, Nat.le_refl, e2]
        first | exact ⟨rfl, hc.1, hf⟩ | exact ⟨hc.1, hf⟩
      · simp (config := { maxSteps := 1000000 }) (disch := first | exact am_nl_i | exact am_nl_r | exact am_nl_n | exact am_l0 | exact am_l1 | exact am_l2 | exact am_l3 | assumption | omega) only [wp_ldc, wp_sipush, wp_ldc_w, wp_lconst, wp_iadd, wp_isub, wp_imul, wp_iand, wp_ior, wp_ixor, wp_ishl, wp_ishr, wp_iushr, wp_idiv, wp_irem, wp_ineg, wp_i2b, wp_i2s, wp_i2c, wp_i2l, wp_ladd, wp_lmul, wp_lcmp, wp_dup_i, wp_dup_r, wp_dup2, wp_pop, wp_getfield, wp_putfield, wp_getstatic, wp_iaload, wp_baload, wp_aaload, wp_iastore, wp_arraylength, wp_goto, wp_fall, wp_ieq, wp_ine, wp_ilt, wp_ige, wp_igt, wp_ile, wp_ceq, wp_cne, wp_clt, wp_cge, wp_cgt, wp_cle, wp_sw, wp_ret0, wp_ret1z, wp_ret1o, wp_ret1, wp_ret2, wp_ret3, wp_ret4, wp_ret5, wp_return, wp_min, wp_max, wp_abs, am_ex, gset_eq, gset_ne, upd_eq, upd_ne, gset_gset, am_ci_1, am_ci_6, am_toList_some, am_toList_none, true_implies, false_implies, and_self, and_true, true_and, not_true_eq_false, not_false_eq_true, imp_self, implies_true, Classical.not_not, if_true, if_false, false_and, and_false, or_false, false_or, true_or, or_true, Nat.reduceAdd, Nat.reduceMul, Nat.reduceSub, Nat.reduceLT, Nat.reduceLeDiff, Nat.reduceEqDiff, Nat.reduceBneDiff, Nat.add_zero, Nat.zero_add, reduceCtorEq, wil0, wal0, wis0, wic0, wil1, wal1, wis1, wic1, wil2, wll2, wal2, wis2, was2, wls2, wic2, wil3, wis3, wic3, wic3m, wic3s, wil4, wis4, wic4, wil5, wis5, wic5, wic5m, wil6, wll6, wal6, wis6, was6, wls6, wic6, wil7, wal7, wis7, was7, wic7, wil8, wis8, wic8, wil9, wis9, wic9, wil10, wis10, wic10, am_nI_inj, am_nI_lt, am_nI_le, nI_add, pk_mul, am_nI_sub, am_add_m1, am_gfs, am_pfs, am_alds, am_asts, am_lens, tgf0, tgf1, tgf2, tgf3, tgf4, tgf5, tgf6, tgf7, tgf8, tgf9, tgf10, tgf11, tgf12, tpf7, tpf8, tpf9, tal0, tas0, tln0, tal1, tas1, tln1, tal2, tas2, tln2, tal3, tas3, tln3, tal4, tas4, tln4, tal5, tas5, tln5, tal6, tas6, tln6, tal7, tas7, tln7, tal8, tas8, tln8, tal9, tas9, tln9, bk99_106, bk99_115, bk99_117, am_B99_54, am_B99_106, am_B99_115, am_B99_117, Nat.le_refl, e2]
        first | exact ⟨rfl, hc.1, hf⟩ | exact ⟨hc.1, hf⟩
    | succ d ih =>
      intro i hi G' hc hf
      have q1 : (x ≤ i) = False := eq_false (by omega)
      obtain ⟨G2, hD, hc2, hf2, hch⟩ := CS_tpass (X := X) hc 1 (by omega)
      rw [wPass_one] at hc2
      have g1 : G2 33 p = nI (ccN (runN S.1.1 i S.1.2.1) S.1.1 p) := hch 0 rfl p (by omega)
      have l1 := minC_le S.1.2.1 S.1.1 p i
      have l2 := maxC_le S.1.2.1 S.1.1 p hv8 i
      have l3 := ccN_le (runN S.1.1 i S.1.2.1) S.1.1 p
      have m1 : (if ccN (runN S.1.1 i S.1.2.1) S.1.1 p < minC S.1.2.1 S.1.1 p i then nI (ccN (runN S.1.1 i S.1.2.1) S.1.1 p) else nI (minC S.1.2.1 S.1.1 p i)) = nI (minC S.1.2.1 S.1.1 p (i + 1)) := by
        have e : minC S.1.2.1 S.1.1 p (i + 1) = min (minC S.1.2.1 S.1.1 p i) (ccN (runN S.1.1 i S.1.2.1) S.1.1 p) := rfl
        rw [e]
        split
        · rw [Nat.min_eq_right (by omega)]
        · rw [Nat.min_eq_left (by omega)]
      have m2 : (if maxC S.1.2.1 S.1.1 p i < ccN (runN S.1.1 i S.1.2.1) S.1.1 p then nI (ccN (runN S.1.1 i S.1.2.1) S.1.1 p) else nI (maxC S.1.2.1 S.1.1 p i)) = nI (maxC S.1.2.1 S.1.1 p (i + 1)) := by
        have e : maxC S.1.2.1 S.1.1 p (i + 1) = max (maxC S.1.2.1 S.1.1 p i) (ccN (runN S.1.1 i S.1.2.1) S.1.1 p) := rfl
        rw [e]
        split
        · rw [Nat.max_eq_right (by omega)]
        · rw [Nat.max_eq_left (by omega)]
      rw [bh99_54]
      simp (config := { maxSteps := 1000000 }) (disch := first | exact am_nl_i | exact am_nl_r | exact am_nl_n | exact am_l0 | exact am_l1 | exact am_l2 | exact am_l3 | assumption | omega) only [wp_ldc, wp_sipush, wp_ldc_w, wp_lconst, wp_iadd, wp_isub, wp_imul, wp_iand, wp_ior, wp_ixor, wp_ishl, wp_ishr, wp_iushr, wp_idiv, wp_irem, wp_ineg, wp_i2b, wp_i2s, wp_i2c, wp_i2l, wp_ladd, wp_lmul, wp_lcmp, wp_dup_i, wp_dup_r, wp_dup2, wp_pop, wp_getfield, wp_putfield, wp_getstatic, wp_iaload, wp_baload, wp_aaload, wp_iastore, wp_arraylength, wp_goto, wp_fall, wp_ieq, wp_ine, wp_ilt, wp_ige, wp_igt, wp_ile, wp_ceq, wp_cne, wp_clt, wp_cge, wp_cgt, wp_cle, wp_sw, wp_ret0, wp_ret1z, wp_ret1o, wp_ret1, wp_ret2, wp_ret3, wp_ret4, wp_ret5, wp_return, wp_min, wp_max, wp_abs, am_ex, gset_eq, gset_ne, upd_eq, upd_ne, gset_gset, am_ci_1, am_ci_6, am_toList_some, am_toList_none, true_implies, false_implies, and_self, and_true, true_and, not_true_eq_false, not_false_eq_true, imp_self, implies_true, Classical.not_not, if_true, if_false, false_and, and_false, or_false, false_or, true_or, or_true, Nat.reduceAdd, Nat.reduceMul, Nat.reduceSub, Nat.reduceLT, Nat.reduceLeDiff, Nat.reduceEqDiff, Nat.reduceBneDiff, Nat.add_zero, Nat.zero_add, reduceCtorEq, wil0, wal0, wis0, wic0, wil1, wal1, wis1, wic1, wil2, wll2, wal2, wis2, was2, wls2, wic2, wil3, wis3, wic3, wic3m, wic3s, wil4, wis4, wic4, wil5, wis5, wic5, wic5m, wil6, wll6, wal6, wis6, was6, wls6, wic6, wil7, wal7, wis7, was7, wic7, wil8, wis8, wic8, wil9, wis9, wic9, wil10, wis10, wic10, am_nI_inj, am_nI_lt, am_nI_le, nI_add, pk_mul, am_nI_sub, am_add_m1, am_gfs, am_pfs, am_alds, am_asts, am_lens, tgf0, tgf1, tgf2, tgf3, tgf4, tgf5, tgf6, tgf7, tgf8, tgf9, tgf10, tgf11, tgf12, tpf7, tpf8, tpf9, tal0, tas0, tln0, tal1, tas1, tln1, tal2, tas2, tln2, tal3, tas3, tln3, tal4, tas4, tln4, tal5, tas5, tln5, tal6, tas6, tln6, tal7, tas7, tln7, tal8, tas8, tln8, tal9, tas9, tln9, am_B99_54, bn99_54, q1, hD, g1, m1, m2]
      exact ih (i + 1) (by omega) G2 hc2 (fun o ho => (hf2 o ho).trans (hf o ho))
  simp (config := { maxSteps := 1000000 }) (disch := first | exact am_nl_i | exact am_nl_r | exact am_nl_n | exact am_l0 | exact am_l1 | exact am_l2 | exact am_l3 | assumption | omega) only [wp_ldc, wp_sipush, wp_ldc_w, wp_lconst, wp_iadd, wp_isub, wp_imul, wp_iand, wp_ior, wp_ixor, wp_ishl, wp_ishr, wp_iushr, wp_idiv, wp_irem, wp_ineg, wp_i2b, wp_i2s, wp_i2c, wp_i2l, wp_ladd, wp_lmul, wp_lcmp, wp_dup_i, wp_dup_r, wp_dup2, wp_pop, wp_getfield, wp_putfield, wp_getstatic, wp_iaload, wp_baload, wp_aaload, wp_iastore, wp_arraylength, wp_goto, wp_fall, wp_ieq, wp_ine, wp_ilt, wp_ige, wp_igt, wp_ile, wp_ceq, wp_cne, wp_clt, wp_cge, wp_cgt, wp_cle, wp_sw, wp_ret0, wp_ret1z, wp_ret1o, wp_ret1, wp_ret2, wp_ret3, wp_ret4, wp_ret5, wp_return, wp_min, wp_max, wp_abs, am_ex, gset_eq, gset_ne, upd_eq, upd_ne, gset_gset, am_ci_1, am_ci_6, am_toList_some, am_toList_none, true_implies, false_implies, and_self, and_true, true_and, not_true_eq_false, not_false_eq_true, imp_self, implies_true, Classical.not_not, if_true, if_false, false_and, and_false, or_false, false_or, true_or, or_true, Nat.reduceAdd, Nat.reduceMul, Nat.reduceSub, Nat.reduceLT, Nat.reduceLeDiff, Nat.reduceEqDiff, Nat.reduceBneDiff, Nat.add_zero, Nat.zero_add, reduceCtorEq, wil0, wal0, wis0, wic0, wil1, wal1, wis1, wic1, wil2, wll2, wal2, wis2, was2, wls2, wic2, wil3, wis3, wic3, wic3m, wic3s, wil4, wis4, wic4, wil5, wis5, wic5, wic5m, wil6, wll6, wal6, wis6, was6, wls6, wic6, wil7, wal7, wis7, was7, wic7, wil8, wis8, wic8, wil9, wis9, wic9, wil10, wis10, wic10, am_nI_inj, am_nI_lt, am_nI_le, nI_add, pk_mul, am_nI_sub, am_add_m1, am_gfs, am_pfs, am_alds, am_asts, am_lens, tgf0, tgf1, tgf2, tgf3, tgf4, tgf5, tgf6, tgf7, tgf8, tgf9, tgf10, tgf11, tgf12, tpf7, tpf8, tpf9, tal0, tas0, tln0, tal1, tas1, tln1, tal2, tas2, tln2, tal3, tas3, tln3, tal4, tas4, tln4, tal5, tas5, tln5, tal6, tas6, tln6, tal7, tas7, tln7, tal8, tas8, tln8, tal9, tas9, tln9, bk99_0, bk99_33, am_B99_0, am_B99_33, bn99_54, C_X4_isPlace, C_X4_isWithin, h1', h2', h3', bI_t, e2, hC]
  exact key x 0 (by omega) G1 (by rw [wPass_zero h.2.1.2.2]; exact hc1) hf1
/-- a trait's value told -/
def pK (v : Int32) : Nat := if v = nM then 8 else aN v
theorem may_x {n i k : Nat} {v : Int32} (hn : n ≤ 8) (hi : i < n) (hk : k < 5) (h : mayB n i k v = true) : ∃ x, v = eK k x ∧ pK v = x ∧ (k = 0 → x < 7) ∧ (k = 1 → x < 8) ∧ (k = 2 → x < 8) ∧ (k = 3 → x = 8 ∨ x < n) ∧ (k = 4 → x ≤ 99999) := by
  have hp : ∀ m j, m ≤ 100000 → j ≤ m → pK (nI j) = j := fun m j hm hj => by
    unfold pK
    rw [if_neg (fun z => (nM_ne (j := j) (by omega)).mp z), aN_nI (by omega)]
  rcases (by omega : k = 0 ∨ k = 1 ∨ k = 2 ∨ k = 3 ∨ k = 4) with rfl | rfl | rfl | rfl | rfl
  · obtain ⟨x, hx, rfl, _⟩ := rng_of (m := 6) (by omega) h
    exact ⟨x, rfl, hp 6 x (by omega) hx, fun _ => by omega, fun _ => by omega, fun _ => by omega, fun _ => by omega, fun _ => by omega⟩
  · obtain ⟨x, hx, rfl, _⟩ := rng_of (m := 7) (by omega) h
    exact ⟨x, (eP_lt (by omega)).symm, hp 7 x (by omega) hx, fun _ => by omega, fun _ => by omega, fun _ => by omega, fun _ => by omega, fun _ => by omega⟩
  · obtain ⟨x, hx, rfl, _⟩ := rng_of (m := 7) (by omega) h
    exact ⟨x, rfl, hp 7 x (by omega) hx, fun _ => by omega, fun _ => by omega, fun _ => by omega, fun _ => by omega, fun _ => by omega⟩
  · by_cases hv : v = nM
    · subst hv
      exact ⟨8, rfl, rfl, fun _ => by omega, fun _ => by omega, fun _ => by omega, fun _ => by omega, fun _ => by omega⟩
    · have h : (inR v nM (nI (n - 1)) && !decide (v = nI i)) = true := h
      rw [Bool.and_eq_true] at h
      have h1 := of_decide_eq_true h.1
      have h0 : inR v (nI 0) (nI (n - 1)) = true := by
        refine decide_eq_true ⟨fun z => ?_, h1.2⟩
        have z1 := Int32.lt_iff_toInt_lt.mp z
        have z2 : ¬ v.toInt < nM.toInt := fun q => h1.1 (Int32.lt_iff_toInt_lt.mpr q)
        have z3 : v.toInt = nM.toInt := by
          have e1 : nM.toInt = -1 := by decide
          have e2 : (nI 0).toInt = 0 := by decide
          omega
        exact hv (Int32.toInt_inj.mp z3)
      obtain ⟨x, hx, rfl, _⟩ := rng_of (m := n - 1) (by omega) h0
      exact ⟨x, (eP_lt (by omega)).symm, hp (n - 1) x (by omega) hx, fun _ => by omega, fun _ => by omega, fun _ => by omega, fun _ => by omega, fun _ => by omega⟩
  · obtain ⟨x, hx, rfl, _⟩ := rng_of (m := 99999) (by omega) h
    exact ⟨x, rfl, hp 99999 x (by omega) hx, fun _ => by omega, fun _ => by omega, fun _ => by omega, fun _ => by omega, fun _ => by omega⟩
theorem TV_set {n : Nat} {T : TT} {i k x : Nat} (h : TV n T) (hi : i < n) (c0 : k = 0 → x < 7) (c1 : k = 1 → x ≤ 8) (c2 : k = 2 → x < 8) (c3 : k = 3 → x = 8 ∨ x < n) (c4 : k = 4 → x ≤ 99999) (hk : k < 5) : TV n (updT T (k + 1) i x) := by
  obtain ⟨v1, v2, v3, v4⟩ := h
  refine ⟨v1, fun p hp => ?_, fun j hj => ?_, fun s hs => ?_⟩
  · have : updT T (k + 1) i x 0 p = T 0 p := if_neg (fun z => by omega)
    rw [this]; exact v2 p hp
  · obtain ⟨b1, b2, b3, b4, b5⟩ := v3 j hj
    unfold updT
    refine ⟨?_, ?_, ?_, ?_, ?_⟩
    · split
      · have := c0 (by omega); omega
      · exact b1
    · split
      · have := c1 (by omega); omega
      · exact b2
    · split
      · have := c2 (by omega); omega
      · exact b3
    · split
      · have := c3 (by omega); omega
      · exact b4
    · split
      · have := c4 (by omega); omega
      · exact b5
  · have : updT T (k + 1) i x 6 s = T 6 s := if_neg (fun z => by omega)
    rw [this]; exact v4 s hs
theorem TWV_set {w : TW} {i k x : Nat} (h : TWV w) (hi : i < w.1) (c0 : k = 0 → x < 7) (c1 : k = 1 → x < 8) (c2 : k = 2 → x < 8) (c3 : k = 3 → x = 8 ∨ x < w.1) (c4 : k = 4 → x ≤ 99999) (hk : k < 5) : TWV (w.1, updT w.2.1 (k + 1) i x, w.2.2) := by
  refine ⟨TV_set h.1 hi c0 (fun e => by have := c1 e; omega) c2 c3 c4 hk, fun j hj => ?_, h.2.2⟩
  show updT w.2.1 (k + 1) i x 2 j < 8
  unfold updT
  split
  · exact c1 (by omega)
  · exact h.2.1 j hj
theorem inR_out {v : Int32} (h : inR v (nI 0) (nI 4) = false) : v.toInt < 0 ∨ 4 < v.toInt := by
  have h := of_decide_eq_false h
  by_cases h1 : v < nI 0
  · left; exact Int32.lt_iff_toInt_lt.mp h1
  · right
    by_cases h2 : nI 4 < v
    · exact Int32.lt_iff_toInt_lt.mp h2
    · exact absurd ⟨h1, h2⟩ h
def sp_change (S : SS) (a1 a2 a3 : Int32) : Int32 × SS :=
  if inR a1 (nI 0) (nI S.1.1 - nI 1) = true then (if inR a2 (nI 0) (nI 4) = true ∧ mayB S.1.1 (aN a1) (aN a2) a3 = true then (eK (aN a2) (S.1.2.1 (aN a2 + 1) (aN a1)), sTown S (S.1.1, updT S.1.2.1 (aN a2 + 1) (aN a1) (pK a3), S.1.2.2)) else sFnd S 0) else sFnd S 0
theorem CT_change {X : AmX} {S : SS} {G : GG} (h : CSt S G) (a1 a2 a3 : Int32) : CW X 52 [.ref 0, .int a1, .int a2, .int a3] G (sp_change S a1 a2 a3) := by
  have hE := h.1
  unfold TWE at hE
  have f0 := hE.1
  have hv8 := h.2.1.1.1
  unfold CW sp_change
  have hb := tb1
  have hb12 := tb12
  have hb23 := tb23
  have e2 : (nI 1 = nI 0) = False := eq_false (by decide)
  show WP X 52 (am_blk 52 0) [some (.ref 0), some (.int a1), some (.int a2), some (.int a3), none] [] G _
  by_cases h1 : inR a1 (nI 0) (nI S.1.1 - nI 1) = true
  rotate_left
  · rw [if_neg (fun z => h1 z)]
    rw [Bool.not_eq_true] at h1
    simp (config := { maxSteps := 1000000 }) (disch := first | exact am_nl_i | exact am_nl_r | exact am_nl_n | exact am_l0 | exact am_l1 | exact am_l2 | exact am_l3 | assumption | omega) only [wp_ldc, wp_sipush, wp_ldc_w, wp_lconst, wp_iadd, wp_isub, wp_imul, wp_iand, wp_ior, wp_ixor, wp_ishl, wp_ishr, wp_iushr, wp_idiv, wp_irem, wp_ineg, wp_i2b, wp_i2s, wp_i2c, wp_i2l, wp_ladd, wp_lmul, wp_lcmp, wp_dup_i, wp_dup_r, wp_dup2, wp_pop, wp_getfield, wp_putfield, wp_getstatic, wp_iaload, wp_baload, wp_aaload, wp_iastore, wp_arraylength, wp_goto, wp_fall, wp_ieq, wp_ine, wp_ilt, wp_ige, wp_igt, wp_ile, wp_ceq, wp_cne, wp_clt, wp_cge, wp_cgt, wp_cle, wp_sw, wp_ret0, wp_ret1z, wp_ret1o, wp_ret1, wp_ret2, wp_ret3, wp_ret4, wp_ret5, wp_return, wp_min, wp_max, wp_abs, am_ex, gset_eq, gset_ne, upd_eq, upd_ne, gset_gset, am_ci_1, am_ci_6, am_toList_some, am_toList_none, true_implies, false_implies, and_self, and_true, true_and, not_true_eq_false, not_false_eq_true, imp_self, implies_true, Classical.not_not, if_true, if_false, false_and, and_false, or_false, false_or, true_or, or_true, Nat.reduceAdd, Nat.reduceMul, Nat.reduceSub, Nat.reduceLT, Nat.reduceLeDiff, Nat.reduceEqDiff, Nat.reduceBneDiff, Nat.add_zero, Nat.zero_add, reduceCtorEq, wil0, wal0, wis0, wic0, wil1, wal1, wis1, wic1, wil2, wll2, wal2, wis2, was2, wls2, wic2, wil3, wis3, wic3, wic3m, wic3s, wil4, wis4, wic4, wil5, wis5, wic5, wic5m, wil6, wll6, wal6, wis6, was6, wls6, wic6, wil7, wal7, wis7, was7, wic7, wil8, wis8, wic8, wil9, wis9, wic9, wil10, wis10, wic10, am_nI_inj, am_nI_lt, am_nI_le, nI_add, pk_mul, am_nI_sub, am_add_m1, am_gfs, am_pfs, am_alds, am_asts, am_lens, tgf0, tgf1, tgf2, tgf3, tgf4, tgf5, tgf6, tgf7, tgf8, tgf9, tgf10, tgf11, tgf12, tpf7, tpf8, tpf9, tal0, tas0, tln0, tal1, tas1, tln1, tal2, tas2, tln2, tal3, tas3, tln3, tal4, tas4, tln4, tal5, tas5, tln5, tal6, tas6, tln6, tal7, tas7, tln7, tal8, tas8, tln8, tal9, tas9, tln9, bs52, am_B52_0, am_B52_21, am_B52_28, C_X4_isThere, C_X4_isPlace, C_X4_isWithin, C_X4_isKind, C_X4_isSpot, C_X4_isSheet, h1, bI_t, bI_f, e2, f0, fcs, C_X4_found]
    first | exact ⟨rfl, CSt_fnd h (by omega), fnd_frame⟩ | exact ⟨CSt_fnd h (by omega), fnd_frame⟩
  rw [if_pos h1]
  obtain ⟨p, hp, rfl, h1'⟩ := there_of hv8 h1
  rw [aN_nI (show p < 2 ^ 31 by omega)]
  by_cases h2 : inR a2 (nI 0) (nI 4) = true
  rotate_left
  · rw [if_neg (fun z => h2 z.1)]
    rw [Bool.not_eq_true] at h2
    have hev := E_X3_mayBecomeO (X := X) (G := G) 1 (nI p) a2 a3 tb1 (inR_out h2)
    have hP := fun (k : Nat) (r : List Instr) (lv : LV) (st : List Value) (Q : Option Value → GG → Prop) (hl : st.length ≤ 4) => WP_ev (k := k) (st := .int a3 :: .int a2 :: .int (nI p) :: .ref 1 :: st) (rest := st) (r := r) (lv := lv) (Q := Q) hev (by decide) (c := 4) rfl rfl hl rfl
    simp (config := { maxSteps := 1000000 }) (disch := first | exact am_nl_i | exact am_nl_r | exact am_nl_n | exact am_l0 | exact am_l1 | exact am_l2 | exact am_l3 | assumption | omega) only [wp_ldc, wp_sipush, wp_ldc_w, wp_lconst, wp_iadd, wp_isub, wp_imul, wp_iand, wp_ior, wp_ixor, wp_ishl, wp_ishr, wp_iushr, wp_idiv, wp_irem, wp_ineg, wp_i2b, wp_i2s, wp_i2c, wp_i2l, wp_ladd, wp_lmul, wp_lcmp, wp_dup_i, wp_dup_r, wp_dup2, wp_pop, wp_getfield, wp_putfield, wp_getstatic, wp_iaload, wp_baload, wp_aaload, wp_iastore, wp_arraylength, wp_goto, wp_fall, wp_ieq, wp_ine, wp_ilt, wp_ige, wp_igt, wp_ile, wp_ceq, wp_cne, wp_clt, wp_cge, wp_cgt, wp_cle, wp_sw, wp_ret0, wp_ret1z, wp_ret1o, wp_ret1, wp_ret2, wp_ret3, wp_ret4, wp_ret5, wp_return, wp_min, wp_max, wp_abs, am_ex, gset_eq, gset_ne, upd_eq, upd_ne, gset_gset, am_ci_1, am_ci_6, am_toList_some, am_toList_none, true_implies, false_implies, and_self, and_true, true_and, not_true_eq_false, not_false_eq_true, imp_self, implies_true, Classical.not_not, if_true, if_false, false_and, and_false, or_false, false_or, true_or, or_true, Nat.reduceAdd, Nat.reduceMul, Nat.reduceSub, Nat.reduceLT, Nat.reduceLeDiff, Nat.reduceEqDiff, Nat.reduceBneDiff, Nat.add_zero, Nat.zero_add, reduceCtorEq, wil0, wal0, wis0, wic0, wil1, wal1, wis1, wic1, wil2, wll2, wal2, wis2, was2, wls2, wic2, wil3, wis3, wic3, wic3m, wic3s, wil4, wis4, wic4, wil5, wis5, wic5, wic5m, wil6, wll6, wal6, wis6, was6, wls6, wic6, wil7, wal7, wis7, was7, wic7, wil8, wis8, wic8, wil9, wis9, wic9, wil10, wis10, wic10, am_nI_inj, am_nI_lt, am_nI_le, nI_add, pk_mul, am_nI_sub, am_add_m1, am_gfs, am_pfs, am_alds, am_asts, am_lens, tgf0, tgf1, tgf2, tgf3, tgf4, tgf5, tgf6, tgf7, tgf8, tgf9, tgf10, tgf11, tgf12, tpf7, tpf8, tpf9, tal0, tas0, tln0, tal1, tas1, tln1, tal2, tas2, tln2, tal3, tas3, tln3, tal4, tas4, tln4, tal5, tas5, tln5, tal6, tas6, tln6, tal7, tas7, tln7, tal8, tas8, tln8, tal9, tas9, tln9, bs52, am_B52_0, am_B52_21, am_B52_28, C_X4_isThere, f0, h1', bI_t, e2, hP, fcs, C_X4_found]
    first | exact ⟨rfl, CSt_fnd h (by omega), fnd_frame⟩ | exact ⟨CSt_fnd h (by omega), fnd_frame⟩
  obtain ⟨x, hx, rfl, h2'⟩ := rng_of (by omega) h2
  rw [aN_nI (show x < 2 ^ 31 by omega)]
  have hev := E_X3_mayBecome (X := X) (G := G) 1 S.1.1 p x a3 tb1 f0 (by omega) hv8 hp (by omega)
  have hP := fun (k : Nat) (r : List Instr) (lv : LV) (st : List Value) (Q : Option Value → GG → Prop) (hl : st.length ≤ 4) => WP_ev (k := k) (st := .int a3 :: .int (nI x) :: .int (nI p) :: .ref 1 :: st) (rest := st) (r := r) (lv := lv) (Q := Q) hev (by decide) (c := 4) rfl rfl hl rfl
  by_cases h3 : mayB S.1.1 p x a3 = true
  rotate_left
  · rw [if_neg (fun z => h3 z.2)]
    rw [Bool.not_eq_true] at h3
    rw [h3] at hP
    simp (config := { maxSteps := 1000000 }) (disch := first | exact am_nl_i | exact am_nl_r | exact am_nl_n | exact am_l0 | exact am_l1 | exact am_l2 | exact am_l3 | assumption | omega) only [wp_ldc, wp_sipush, wp_ldc_w, wp_lconst, wp_iadd, wp_isub, wp_imul, wp_iand, wp_ior, wp_ixor, wp_ishl, wp_ishr, wp_iushr, wp_idiv, wp_irem, wp_ineg, wp_i2b, wp_i2s, wp_i2c, wp_i2l, wp_ladd, wp_lmul, wp_lcmp, wp_dup_i, wp_dup_r, wp_dup2, wp_pop, wp_getfield, wp_putfield, wp_getstatic, wp_iaload, wp_baload, wp_aaload, wp_iastore, wp_arraylength, wp_goto, wp_fall, wp_ieq, wp_ine, wp_ilt, wp_ige, wp_igt, wp_ile, wp_ceq, wp_cne, wp_clt, wp_cge, wp_cgt, wp_cle, wp_sw, wp_ret0, wp_ret1z, wp_ret1o, wp_ret1, wp_ret2, wp_ret3, wp_ret4, wp_ret5, wp_return, wp_min, wp_max, wp_abs, am_ex, gset_eq, gset_ne, upd_eq, upd_ne, gset_gset, am_ci_1, am_ci_6, am_toList_some, am_toList_none, true_implies, false_implies, and_self, and_true, true_and, not_true_eq_false, not_false_eq_true, imp_self, implies_true, Classical.not_not, if_true, if_false, false_and, and_false, or_false, false_or, true_or, or_true, Nat.reduceAdd, Nat.reduceMul, Nat.reduceSub, Nat.reduceLT, Nat.reduceLeDiff, Nat.reduceEqDiff, Nat.reduceBneDiff, Nat.add_zero, Nat.zero_add, reduceCtorEq, wil0, wal0, wis0, wic0, wil1, wal1, wis1, wic1, wil2, wll2, wal2, wis2, was2, wls2, wic2, wil3, wis3, wic3, wic3m, wic3s, wil4, wis4, wic4, wil5, wis5, wic5, wic5m, wil6, wll6, wal6, wis6, was6, wls6, wic6, wil7, wal7, wis7, was7, wic7, wil8, wis8, wic8, wil9, wis9, wic9, wil10, wis10, wic10, am_nI_inj, am_nI_lt, am_nI_le, nI_add, pk_mul, am_nI_sub, am_add_m1, am_gfs, am_pfs, am_alds, am_asts, am_lens, tgf0, tgf1, tgf2, tgf3, tgf4, tgf5, tgf6, tgf7, tgf8, tgf9, tgf10, tgf11, tgf12, tpf7, tpf8, tpf9, tal0, tas0, tln0, tal1, tas1, tln1, tal2, tas2, tln2, tal3, tas3, tln3, tal4, tas4, tln4, tal5, tas5, tln5, tal6, tas6, tln6, tal7, tas7, tln7, tal8, tas8, tln8, tal9, tas9, tln9, bs52, am_B52_0, am_B52_21, am_B52_28, C_X4_isThere, f0, h1', bI_t, bI_f, e2, hP, fcs, C_X4_found]
    first | exact ⟨rfl, CSt_fnd h (by omega), fnd_frame⟩ | exact ⟨CSt_fnd h (by omega), fnd_frame⟩
  rw [if_pos ⟨h2, h3⟩]
  rw [h3] at hP
  obtain ⟨y, hy, hpk, c0, c1, c2, c3, c4⟩ := may_x hv8 hp (by omega) h3
  rw [hpk]
  have hev2 := E_X3_traitOf (X := X) 1 S.1.1 p x S.1.2.1 S.1.2.2.1 S.1.2.2.2 tb1 hE hv8 hp (by omega)
  have hR := fun (k : Nat) (r : List Instr) (lv : LV) (st : List Value) (Q : Option Value → GG → Prop) (hl : st.length ≤ 4) => WP_ev (k := k) (st := .int (nI x) :: .int (nI p) :: .ref 1 :: st) (rest := st) (r := r) (lv := lv) (Q := Q) hev2 (by decide) (c := 3) rfl rfl hl rfl
  have hev3 := E_X3_setTrait (X := X) (G := G) 1 p x a3 tb1 (by omega) (by omega)
  have hU := fun (k : Nat) (r : List Instr) (lv : LV) (st : List Value) (Q : Option Value → GG → Prop) (hl : st.length ≤ 4) => WP_ev (k := k) (st := .int a3 :: .int (nI x) :: .int (nI p) :: .ref 1 :: st) (rest := st) (r := r) (lv := lv) (Q := Q) hev3 (by decide) (c := 4) rfl rfl hl rfl
  simp (config := { maxSteps := 1000000 }) (disch := first | exact am_nl_i | exact am_nl_r | exact am_nl_n | exact am_l0 | exact am_l1 | exact am_l2 | exact am_l3 | assumption | omega) only [wp_ldc, wp_sipush, wp_ldc_w, wp_lconst, wp_iadd, wp_isub, wp_imul, wp_iand, wp_ior, wp_ixor, wp_ishl, wp_ishr, wp_iushr, wp_idiv, wp_irem, wp_ineg, wp_i2b, wp_i2s, wp_i2c, wp_i2l, wp_ladd, wp_lmul, wp_lcmp, wp_dup_i, wp_dup_r, wp_dup2, wp_pop, wp_getfield, wp_putfield, wp_getstatic, wp_iaload, wp_baload, wp_aaload, wp_iastore, wp_arraylength, wp_goto, wp_fall, wp_ieq, wp_ine, wp_ilt, wp_ige, wp_igt, wp_ile, wp_ceq, wp_cne, wp_clt, wp_cge, wp_cgt, wp_cle, wp_sw, wp_ret0, wp_ret1z, wp_ret1o, wp_ret1, wp_ret2, wp_ret3, wp_ret4, wp_ret5, wp_return, wp_min, wp_max, wp_abs, am_ex, gset_eq, gset_ne, upd_eq, upd_ne, gset_gset, am_ci_1, am_ci_6, am_toList_some, am_toList_none, true_implies, false_implies, and_self, and_true, true_and, not_true_eq_false, not_false_eq_true, imp_self, implies_true, Classical.not_not, if_true, if_false, false_and, and_false, or_false, false_or, true_or, or_true, Nat.reduceAdd, Nat.reduceMul, Nat.reduceSub, Nat.reduceLT, Nat.reduceLeDiff, Nat.reduceEqDiff, Nat.reduceBneDiff, Nat.add_zero, Nat.zero_add, reduceCtorEq, wil0, wal0, wis0, wic0, wil1, wal1, wis1, wic1, wil2, wll2, wal2, wis2, was2, wls2, wic2, wil3, wis3, wic3, wic3m, wic3s, wil4, wis4, wic4, wil5, wis5, wic5, wic5m, wil6, wll6, wal6, wis6, was6, wls6, wic6, wil7, wal7, wis7, was7, wic7, wil8, wis8, wic8, wil9, wis9, wic9, wil10, wis10, wic10, am_nI_inj, am_nI_lt, am_nI_le, nI_add, pk_mul, am_nI_sub, am_add_m1, am_gfs, am_pfs, am_alds, am_asts, am_lens, tgf0, tgf1, tgf2, tgf3, tgf4, tgf5, tgf6, tgf7, tgf8, tgf9, tgf10, tgf11, tgf12, tpf7, tpf8, tpf9, tal0, tas0, tln0, tal1, tas1, tln1, tal2, tas2, tln2, tal3, tas3, tln3, tal4, tas4, tln4, tal5, tas5, tln5, tal6, tas6, tln6, tal7, tas7, tln7, tal8, tas8, tln8, tal9, tas9, tln9, bs52, am_B52_0, am_B52_21, am_B52_28, C_X4_isThere, f0, h1', bI_t, e2, hP, hR, hU]
  have hT := TE_set (i := p) (k := x) (x := y) hE (by omega)
  rw [← hy] at hT
  first | exact ⟨rfl, CSt_town h hT (TWV_set h.2.1 hp c0 c1 c2 c3 c4 (by omega)) (fun o ho => gset_ne (by omega)), fun o ho => gset_ne (by omega)⟩ | exact ⟨CSt_town h hT (TWV_set h.2.1 hp c0 c1 c2 c3 c4 (by omega)) (fun o ho => gset_ne (by omega)), fun o ho => gset_ne (by omega)⟩
theorem TE_z {G : GG} {b n : Nat} {T : TT} {t : Nat} {z v : Int32} (hE : TE G b n T t z) : TE (gset G b (upd (G b) 9 v)) b n T t v := by
  obtain ⟨a0, a1, a2, a3, a4, a5, a6, a7, a8, a9⟩ := hE
  refine ⟨?_, ?_, ?_, fun p hp => ?_, fun p hp => ?_, fun p hp => ?_, fun p hp => ?_, fun p hp => ?_, fun p hp => ?_, fun p hp => ?_⟩
  · rw [gset_eq, upd_ne (by decide)]; exact a0
  · rw [gset_eq, upd_ne (by decide)]; exact a1
  · rw [gset_eq, upd_eq]
  · rw [gset_ne (by omega)]; exact a3 p hp
  · rw [gset_ne (by omega)]; exact a4 p hp
  · rw [gset_ne (by omega)]; exact a5 p hp
  · rw [gset_ne (by omega)]; exact a6 p hp
  · rw [gset_ne (by omega)]; exact a7 p hp
  · rw [gset_ne (by omega)]; exact a8 p hp
  · rw [gset_ne (by omega)]; exact a9 p hp
def sp_seed (S : SS) (a1 : Int32) : Int32 × SS := (S.1.2.2.2, sTown S (S.1.1, S.1.2.1, S.1.2.2.1, a1))
theorem CT_seed {X : AmX} {S : SS} {G : GG} (h : CSt S G) (a1 : Int32) : CW X 146 [.ref 0, .int a1] G (sp_seed S a1) := by
  have hE := h.1
  unfold TWE at hE
  have f0 := hE.1
  have hv8 := h.2.1.1.1
  unfold CW sp_seed
  have hb := tb1
  have hb12 := tb12
  have hb23 := tb23
  have e2 : (nI 1 = nI 0) = False := eq_false (by decide)
  show WP X 146 (am_blk 146 0) [some (.ref 0), some (.int a1), none] [] G _
  have f9 := hE.2.2.1
  simp (config := { maxSteps := 1000000 }) (disch := first | exact am_nl_i | exact am_nl_r | exact am_nl_n | exact am_l0 | exact am_l1 | exact am_l2 | exact am_l3 | assumption | omega) only [wp_ldc, wp_sipush, wp_ldc_w, wp_lconst, wp_iadd, wp_isub, wp_imul, wp_iand, wp_ior, wp_ixor, wp_ishl, wp_ishr, wp_iushr, wp_idiv, wp_irem, wp_ineg, wp_i2b, wp_i2s, wp_i2c, wp_i2l, wp_ladd, wp_lmul, wp_lcmp, wp_dup_i, wp_dup_r, wp_dup2, wp_pop, wp_getfield, wp_putfield, wp_getstatic, wp_iaload, wp_baload, wp_aaload, wp_iastore, wp_arraylength, wp_goto, wp_fall, wp_ieq, wp_ine, wp_ilt, wp_ige, wp_igt, wp_ile, wp_ceq, wp_cne, wp_clt, wp_cge, wp_cgt, wp_cle, wp_sw, wp_ret0, wp_ret1z, wp_ret1o, wp_ret1, wp_ret2, wp_ret3, wp_ret4, wp_ret5, wp_return, wp_min, wp_max, wp_abs, am_ex, gset_eq, gset_ne, upd_eq, upd_ne, gset_gset, am_ci_1, am_ci_6, am_toList_some, am_toList_none, true_implies, false_implies, and_self, and_true, true_and, not_true_eq_false, not_false_eq_true, imp_self, implies_true, Classical.not_not, if_true, if_false, false_and, and_false, or_false, false_or, true_or, or_true, Nat.reduceAdd, Nat.reduceMul, Nat.reduceSub, Nat.reduceLT, Nat.reduceLeDiff, Nat.reduceEqDiff, Nat.reduceBneDiff, Nat.add_zero, Nat.zero_add, reduceCtorEq, wil0, wal0, wis0, wic0, wil1, wal1, wis1, wic1, wil2, wll2, wal2, wis2, was2, wls2, wic2, wil3, wis3, wic3, wic3m, wic3s, wil4, wis4, wic4, wil5, wis5, wic5, wic5m, wil6, wll6, wal6, wis6, was6, wls6, wic6, wil7, wal7, wis7, was7, wic7, wil8, wis8, wic8, wil9, wis9, wic9, wil10, wis10, wic10, am_nI_inj, am_nI_lt, am_nI_le, nI_add, pk_mul, am_nI_sub, am_add_m1, am_gfs, am_pfs, am_alds, am_asts, am_lens, tgf0, tgf1, tgf2, tgf3, tgf4, tgf5, tgf6, tgf7, tgf8, tgf9, tgf10, tgf11, tgf12, tpf7, tpf8, tpf9, tal0, tas0, tln0, tal1, tas1, tln1, tal2, tas2, tln2, tal3, tas3, tln3, tal4, tas4, tln4, tal5, tas5, tln5, tal6, tas6, tln6, tal7, tas7, tln7, tal8, tas8, tln8, tal9, tas9, tln9, bs146, am_B146_0, f9]
  first | exact ⟨rfl, CSt_town h (TE_z hE) h.2.1 (fun o ho => gset_ne (by omega)), fun o ho => gset_ne (by omega)⟩ | exact ⟨CSt_town h (TE_z hE) h.2.1 (fun o ho => gset_ne (by omega)), fun o ho => gset_ne (by omega)⟩
