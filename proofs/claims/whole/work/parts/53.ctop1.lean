/-! ===== the class: places, people ===== -/
def sp_prize (S : SS) (a1 a2 : Int32) : Int32 × SS :=
  if inR a1 (nI 0) (nI 7) = true ∧ inR a2 (nI 0) (nI 9999) = true then (nI (S.1.2.1 0 (aN a1)), sTown S (S.1.1, updT S.1.2.1 0 (aN a1) (aN a2), S.1.2.2)) else sFnd S 0
theorem TE_prize {G : GG} {b n : Nat} {T : TT} {t : Nat} {z : Int32} {p x : Nat} (hE : TE G b n T t z) : TE (gset G (b + 1) (upd (G (b + 1)) p (nI x))) b n (updT T 0 p x) t z := by
  obtain ⟨a0, a1, a2, a3, a4, a5, a6, a7, a8, a9⟩ := hE
  have hg : ∀ c, ¬ c = 1 → gset G (b + 1) (upd (G (b + 1)) p (nI x)) (b + c) = G (b + c) := fun c hc => gset_ne (by omega)
  have hu : ∀ c j, ¬ c = 0 → updT T 0 p x c j = T c j := fun c j hc => if_neg (fun z => hc z.1)
  have hb0 : gset G (b + 1) (upd (G (b + 1)) p (nI x)) b = G b := gset_ne (by omega)
  refine ⟨by rw [hb0]; exact a0, by rw [hb0]; exact a1, by rw [hb0]; exact a2, fun q hq => ?_, fun j hj => ?_, fun j hj => ?_, fun j hj => ?_, fun j hj => ?_, fun j hj => ?_, fun s hs => ?_⟩
  · rw [gset_eq]
    by_cases e : q = p
    · subst e; rw [upd_eq]; unfold updT; simp
    · rw [upd_ne e, a3 q hq]; unfold updT; simp [e]
  · rw [hg 2 (by omega), hu 1 j (by omega)]; exact a4 j hj
  · rw [hg 3 (by omega), hu 2 j (by omega)]; exact a5 j hj
  · rw [hg 4 (by omega), hu 3 j (by omega)]; exact a6 j hj
  · rw [hg 5 (by omega), hu 4 j (by omega)]; exact a7 j hj
  · rw [hg 6 (by omega), hu 5 j (by omega)]; exact a8 j hj
  · rw [hg 7 (by omega), hu 6 s (by omega)]; exact a9 s hs
theorem TWV_prize {w : TW} {p x : Nat} (h : TWV w) (hx : x ≤ 9999) : TWV (w.1, updT w.2.1 0 p x, w.2.2) := by
  obtain ⟨⟨v1, v2, v3, v4⟩, hp, ht⟩ := h
  have hu : ∀ c j, ¬ c = 0 → updT w.2.1 0 p x c j = w.2.1 c j := fun c j hc => if_neg (fun z => hc z.1)
  refine ⟨⟨v1, fun q hq => ?_, fun i hi => ?_, fun s hs => ?_⟩, fun i hi => ?_, ht⟩
  · show updT w.2.1 0 p x 0 q ≤ 9999
    unfold updT
    split
    · exact hx
    · exact v2 q hq
  · show updT w.2.1 0 p x 1 i < 7 ∧ _
    simp only [hu _ _ (show ¬ (1 : Nat) = 0 by decide), hu _ _ (show ¬ (2 : Nat) = 0 by decide), hu _ _ (show ¬ (3 : Nat) = 0 by decide), hu _ _ (show ¬ (4 : Nat) = 0 by decide), hu _ _ (show ¬ (5 : Nat) = 0 by decide)]
    exact v3 i hi
  · show updT w.2.1 0 p x 6 s = 8 ∨ _
    rw [hu _ _ (by decide)]; exact v4 s hs
  · show updT w.2.1 0 p x 2 i < 8
    rw [hu _ _ (by decide)]; exact hp i hi
theorem CT_prize {X : AmX} {S : SS} {G : GG} (h : CSt S G) (a1 a2 : Int32) : CW X 9 [.ref 0, .int a1, .int a2] G (sp_prize S a1 a2) := by
  have hE := h.1
  unfold TWE at hE
  unfold CW sp_prize
  have hb := tb1
  have e2 : (nI 1 = nI 0) = False := eq_false (by decide)
  show WP X 9 (am_blk 9 0) [some (.ref 0), some (.int a1), some (.int a2), none] [] G _
  by_cases h1 : inR a1 (nI 0) (nI 7) = true
  · by_cases h2 : inR a2 (nI 0) (nI 9999) = true
    · rw [if_pos ⟨h1, h2⟩]
      obtain ⟨e3, hl1⟩ := inR_n (by omega) h1
      obtain ⟨e4, hl2⟩ := inR_n (by omega) h2
      have h1' := h1
      have h2' := h2
      rw [e3] at h1' ⊢
      rw [e4] at h2' ⊢
      have f1 := hE.2.2.2.1 (aN a1) (by omega)
      rw [aN_nI (by omega), aN_nI (by omega)]
      generalize aN a1 = p at *
      generalize aN a2 = x at *
      simp (config := { maxSteps := 1000000 }) (disch := first | exact am_nl_i | exact am_nl_r | exact am_nl_n | exact am_l0 | exact am_l1 | exact am_l2 | exact am_l3 | assumption | omega) only [wp_ldc, wp_sipush, wp_ldc_w, wp_lconst, wp_iadd, wp_isub, wp_imul, wp_iand, wp_ior, wp_ixor, wp_ishl, wp_ishr, wp_iushr, wp_idiv, wp_irem, wp_ineg, wp_i2b, wp_i2s, wp_i2c, wp_i2l, wp_ladd, wp_lmul, wp_lcmp, wp_dup_i, wp_dup_r, wp_dup2, wp_pop, wp_getfield, wp_putfield, wp_getstatic, wp_iaload, wp_baload, wp_aaload, wp_iastore, wp_arraylength, wp_goto, wp_fall, wp_ieq, wp_ine, wp_ilt, wp_ige, wp_igt, wp_ile, wp_ceq, wp_cne, wp_clt, wp_cge, wp_cgt, wp_cle, wp_sw, wp_ret0, wp_ret1z, wp_ret1o, wp_ret1, wp_ret2, wp_ret3, wp_ret4, wp_ret5, wp_return, wp_min, wp_max, wp_abs, am_ex, gset_eq, gset_ne, upd_eq, upd_ne, gset_gset, am_ci_1, am_ci_6, am_toList_some, am_toList_none, true_implies, false_implies, and_self, and_true, true_and, not_true_eq_false, not_false_eq_true, imp_self, implies_true, Classical.not_not, if_true, if_false, false_and, and_false, or_false, false_or, true_or, or_true, Nat.reduceAdd, Nat.reduceMul, Nat.reduceSub, Nat.reduceLT, Nat.reduceLeDiff, Nat.reduceEqDiff, Nat.reduceBneDiff, Nat.add_zero, Nat.zero_add, reduceCtorEq, wil0, wal0, wis0, wic0, wil1, wal1, wis1, wic1, wil2, wll2, wal2, wis2, was2, wls2, wic2, wil3, wis3, wic3, wic3m, wic3s, wil4, wis4, wic4, wil5, wis5, wic5, wic5m, wil6, wll6, wal6, wis6, was6, wls6, wic6, wil7, wal7, wis7, was7, wic7, wil8, wis8, wic8, wil9, wis9, wic9, wil10, wis10, wic10, am_nI_inj, am_nI_lt, am_nI_le, nI_add, pk_mul, am_nI_sub, am_add_m1, am_gfs, am_pfs, am_alds, am_asts, am_lens, tgf0, tgf1, tgf2, tgf3, tgf4, tgf5, tgf6, tgf7, tgf8, tgf9, tgf10, tgf11, tgf12, tpf7, tpf8, tpf9, tal0, tas0, tln0, tal1, tas1, tln1, tal2, tas2, tln2, tal3, tas3, tln3, tal4, tas4, tln4, tal5, tas5, tln5, tal6, tas6, tln6, tal7, tas7, tln7, tal8, tas8, tln8, tal9, tas9, tln9, bs9, am_B9_0, am_B9_18, am_B9_25, C_X4_isPlace, C_X4_isWithin, h1', h2', bI_t, e2, f1]
      first | exact ⟨rfl, CSt_town h (TE_prize hE) (TWV_prize h.2.1 hl2) (fun o ho => gset_ne (by omega)), fun o ho => gset_ne (by omega)⟩ | exact ⟨CSt_town h (TE_prize hE) (TWV_prize h.2.1 hl2) (fun o ho => gset_ne (by omega)), fun o ho => gset_ne (by omega)⟩
    · rw [if_neg (fun z => h2 z.2)]
      rw [Bool.not_eq_true] at h2
      simp (config := { maxSteps := 1000000 }) (disch := first | exact am_nl_i | exact am_nl_r | exact am_nl_n | exact am_l0 | exact am_l1 | exact am_l2 | exact am_l3 | assumption | omega) only [wp_ldc, wp_sipush, wp_ldc_w, wp_lconst, wp_iadd, wp_isub, wp_imul, wp_iand, wp_ior, wp_ixor, wp_ishl, wp_ishr, wp_iushr, wp_idiv, wp_irem, wp_ineg, wp_i2b, wp_i2s, wp_i2c, wp_i2l, wp_ladd, wp_lmul, wp_lcmp, wp_dup_i, wp_dup_r, wp_dup2, wp_pop, wp_getfield, wp_putfield, wp_getstatic, wp_iaload, wp_baload, wp_aaload, wp_iastore, wp_arraylength, wp_goto, wp_fall, wp_ieq, wp_ine, wp_ilt, wp_ige, wp_igt, wp_ile, wp_ceq, wp_cne, wp_clt, wp_cge, wp_cgt, wp_cle, wp_sw, wp_ret0, wp_ret1z, wp_ret1o, wp_ret1, wp_ret2, wp_ret3, wp_ret4, wp_ret5, wp_return, wp_min, wp_max, wp_abs, am_ex, gset_eq, gset_ne, upd_eq, upd_ne, gset_gset, am_ci_1, am_ci_6, am_toList_some, am_toList_none, true_implies, false_implies, and_self, and_true, true_and, not_true_eq_false, not_false_eq_true, imp_self, implies_true, Classical.not_not, if_true, if_false, false_and, and_false, or_false, false_or, true_or, or_true, Nat.reduceAdd, Nat.reduceMul, Nat.reduceSub, Nat.reduceLT, Nat.reduceLeDiff, Nat.reduceEqDiff, Nat.reduceBneDiff, Nat.add_zero, Nat.zero_add, reduceCtorEq, wil0, wal0, wis0, wic0, wil1, wal1, wis1, wic1, wil2, wll2, wal2, wis2, was2, wls2, wic2, wil3, wis3, wic3, wic3m, wic3s, wil4, wis4, wic4, wil5, wis5, wic5, wic5m, wil6, wll6, wal6, wis6, was6, wls6, wic6, wil7, wal7, wis7, was7, wic7, wil8, wis8, wic8, wil9, wis9, wic9, wil10, wis10, wic10, am_nI_inj, am_nI_lt, am_nI_le, nI_add, pk_mul, am_nI_sub, am_add_m1, am_gfs, am_pfs, am_alds, am_asts, am_lens, tgf0, tgf1, tgf2, tgf3, tgf4, tgf5, tgf6, tgf7, tgf8, tgf9, tgf10, tgf11, tgf12, tpf7, tpf8, tpf9, tal0, tas0, tln0, tal1, tas1, tln1, tal2, tas2, tln2, tal3, tas3, tln3, tal4, tas4, tln4, tal5, tas5, tln5, tal6, tas6, tln6, tal7, tas7, tln7, tal8, tas8, tln8, tal9, tas9, tln9, bs9, am_B9_0, am_B9_18, am_B9_25, C_X4_isPlace, C_X4_isWithin, h1, h2, bI_t, bI_f, e2, fcs, C_X4_found]
      first | exact ⟨rfl, CSt_fnd h (by omega), fnd_frame⟩ | exact ⟨CSt_fnd h (by omega), fnd_frame⟩
  · rw [if_neg (fun z => h1 z.1)]
    rw [Bool.not_eq_true] at h1
    simp (config := { maxSteps := 1000000 }) (disch := first | exact am_nl_i | exact am_nl_r | exact am_nl_n | exact am_l0 | exact am_l1 | exact am_l2 | exact am_l3 | assumption | omega) only [wp_ldc, wp_sipush, wp_ldc_w, wp_lconst, wp_iadd, wp_isub, wp_imul, wp_iand, wp_ior, wp_ixor, wp_ishl, wp_ishr, wp_iushr, wp_idiv, wp_irem, wp_ineg, wp_i2b, wp_i2s, wp_i2c, wp_i2l, wp_ladd, wp_lmul, wp_lcmp, wp_dup_i, wp_dup_r, wp_dup2, wp_pop, wp_getfield, wp_putfield, wp_getstatic, wp_iaload, wp_baload, wp_aaload, wp_iastore, wp_arraylength, wp_goto, wp_fall, wp_ieq, wp_ine, wp_ilt, wp_ige, wp_igt, wp_ile, wp_ceq, wp_cne, wp_clt, wp_cge, wp_cgt, wp_cle, wp_sw, wp_ret0, wp_ret1z, wp_ret1o, wp_ret1, wp_ret2, wp_ret3, wp_ret4, wp_ret5, wp_return, wp_min, wp_max, wp_abs, am_ex, gset_eq, gset_ne, upd_eq, upd_ne, gset_gset, am_ci_1, am_ci_6, am_toList_some, am_toList_none, true_implies, false_implies, and_self, and_true, true_and, not_true_eq_false, not_false_eq_true, imp_self, implies_true, Classical.not_not, if_true, if_false, false_and, and_false, or_false, false_or, true_or, or_true, Nat.reduceAdd, Nat.reduceMul, Nat.reduceSub, Nat.reduceLT, Nat.reduceLeDiff, Nat.reduceEqDiff, Nat.reduceBneDiff, Nat.add_zero, Nat.zero_add, reduceCtorEq, wil0, wal0, wis0, wic0, wil1, wal1, wis1, wic1, wil2, wll2, wal2, wis2, was2, wls2, wic2, wil3, wis3, wic3, wic3m, wic3s, wil4, wis4, wic4, wil5, wis5, wic5, wic5m, wil6, wll6, wal6, wis6, was6, wls6, wic6, wil7, wal7, wis7, was7, wic7, wil8, wis8, wic8, wil9, wis9, wic9, wil10, wis10, wic10, am_nI_inj, am_nI_lt, am_nI_le, nI_add, pk_mul, am_nI_sub, am_add_m1, am_gfs, am_pfs, am_alds, am_asts, am_lens, tgf0, tgf1, tgf2, tgf3, tgf4, tgf5, tgf6, tgf7, tgf8, tgf9, tgf10, tgf11, tgf12, tpf7, tpf8, tpf9, tal0, tas0, tln0, tal1, tas1, tln1, tal2, tas2, tln2, tal3, tas3, tln3, tal4, tas4, tln4, tal5, tas5, tln5, tal6, tas6, tln6, tal7, tas7, tln7, tal8, tas8, tln8, tal9, tas9, tln9, bs9, am_B9_0, am_B9_18, am_B9_25, C_X4_isPlace, C_X4_isWithin, h1, bI_t, bI_f, e2, fcs, C_X4_found]
    first | exact ⟨rfl, CSt_fnd h (by omega), fnd_frame⟩ | exact ⟨CSt_fnd h (by omega), fnd_frame⟩
